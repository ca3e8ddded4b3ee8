/-! SITES, by program (wip/p23/gen_sites.py) -/
set_option maxRecDepth 20000 in
theorem sn_J6_bitCount {p : Program} {l : Launch} {e : Env} {R : Room} {s : State} {m : MethodId} {args : Array Value} {below : List Frame} {meth : Method} {c : Code} {D : va_G} {bs : Nat → Prop} {ad : Nat → Nat → Nat} {aI aC aS : ClassId} {Rp : bb_P} {C : bb_C} (hx : bb_Cx p s m args c D bs ad aI aC aS cJ6_bitCount_0f7a4 RJ6 (bb_ws 1)) (hcs : bb_CS l R D bs ad aI aC aS C) (hr : meth.sig.returnType = some .int) (hlk : meth.locks = false) (hRf : 1 ≤ R.frames) (hRl : 36 ≤ R.locals) : ∀ pc, bb_Snd p l e R s m args below meth c D bs ad aI aC aS Rp C pc (cd_J6_bitCount pc) := by
  unfold cd_J6_bitCount
  refine bb_lkS (fun pc => sd_fail) ?_
  refine bb_lc (sd_iload_n hx dJ6_bitCount_0f7a4_0 rfl) ?_
  refine bb_lc (sd_iload_n hx dJ6_bitCount_0f7a4_1 rfl) ?_
  refine bb_lc (sd_iconst hx dJ6_bitCount_0f7a4_2 (by decide)) ?_
  refine bb_lc (sd_iushr hx dJ6_bitCount_0f7a4_3) ?_
  refine bb_lc (sd_ldcw hx dJ6_bitCount_0f7a4_4 (List.mem_cons_of_mem _ wd_210)) ?_
  refine bb_lc (sd_iand hx dJ6_bitCount_0f7a4_7) ?_
  refine bb_lc (sd_isub hx dJ6_bitCount_0f7a4_8) ?_
  refine bb_lc (sd_istore_n hx dJ6_bitCount_0f7a4_9 rfl) ?_
  refine bb_lc (sd_iload_n hx dJ6_bitCount_0f7a4_10 rfl) ?_
  refine bb_lc (sd_ldcw hx dJ6_bitCount_0f7a4_11 (List.mem_cons_of_mem _ wd_211)) ?_
  refine bb_lc (sd_iand hx dJ6_bitCount_0f7a4_14) ?_
  refine bb_lc (sd_iload_n hx dJ6_bitCount_0f7a4_15 rfl) ?_
  refine bb_lc (sd_iconst hx dJ6_bitCount_0f7a4_16 (by decide)) ?_
  refine bb_lc (sd_iushr hx dJ6_bitCount_0f7a4_17) ?_
  refine bb_lc (sd_ldcw hx dJ6_bitCount_0f7a4_18 (List.mem_cons_of_mem _ wd_211)) ?_
  refine bb_lc (sd_iand hx dJ6_bitCount_0f7a4_21) ?_
  refine bb_lc (sd_iadd hx dJ6_bitCount_0f7a4_22) ?_
  refine bb_lc (sd_istore_n hx dJ6_bitCount_0f7a4_23 rfl) ?_
  refine bb_lc (sd_iload_n hx dJ6_bitCount_0f7a4_24 rfl) ?_
  refine bb_lc (sd_iload_n hx dJ6_bitCount_0f7a4_25 rfl) ?_
  refine bb_lc (sd_iconst hx dJ6_bitCount_0f7a4_26 (by decide)) ?_
  refine bb_lc (sd_iushr hx dJ6_bitCount_0f7a4_27) ?_
  refine bb_lc (sd_iadd hx dJ6_bitCount_0f7a4_28) ?_
  refine bb_lc (sd_ldcw hx dJ6_bitCount_0f7a4_29 (List.mem_cons_of_mem _ wd_212)) ?_
  refine bb_lc (sd_iand hx dJ6_bitCount_0f7a4_32) ?_
  refine bb_lc (sd_istore_n hx dJ6_bitCount_0f7a4_33 rfl) ?_
  refine bb_lc (sd_iload_n hx dJ6_bitCount_0f7a4_34 rfl) ?_
  refine bb_lc (sd_iload_n hx dJ6_bitCount_0f7a4_35 rfl) ?_
  refine bb_lc (sd_bipush hx dJ6_bitCount_0f7a4_36 (by decide)) ?_
  refine bb_lc (sd_iushr hx dJ6_bitCount_0f7a4_38) ?_
  refine bb_lc (sd_iadd hx dJ6_bitCount_0f7a4_39) ?_
  refine bb_lc (sd_istore_n hx dJ6_bitCount_0f7a4_40 rfl) ?_
  refine bb_lc (sd_iload_n hx dJ6_bitCount_0f7a4_41 rfl) ?_
  refine bb_lc (sd_iload_n hx dJ6_bitCount_0f7a4_42 rfl) ?_
  refine bb_lc (sd_bipush hx dJ6_bitCount_0f7a4_43 (by decide)) ?_
  refine bb_lc (sd_iushr hx dJ6_bitCount_0f7a4_45) ?_
  refine bb_lc (sd_iadd hx dJ6_bitCount_0f7a4_46) ?_
  refine bb_lc (sd_istore_n hx dJ6_bitCount_0f7a4_47 rfl) ?_
  refine bb_lc (sd_iload_n hx dJ6_bitCount_0f7a4_48 rfl) ?_
  refine bb_lc (sd_bipush hx dJ6_bitCount_0f7a4_49 (by decide)) ?_
  refine bb_lc (sd_iand hx dJ6_bitCount_0f7a4_51) ?_
  refine bb_lc (sd_iret hx dJ6_bitCount_0f7a4_52 hr hlk) ?_
  exact bb_ln
set_option maxRecDepth 20000 in
theorem sn_X6_dump {p : Program} {l : Launch} {e : Env} {R : Room} {s : State} {m : MethodId} {args : Array Value} {below : List Frame} {meth : Method} {c : Code} {D : va_G} {bs : Nat → Prop} {ad : Nat → Nat → Nat} {aI aC aS : ClassId} {Rp : bb_P} {C : bb_C} (hx : bb_Cx p s m args c D bs ad aI aC aS cX6_dump RX6 (bb_ws 2)) (hcs : bb_CS l R D bs ad aI aC aS C) (hr : meth.sig.returnType = some .int) (hlk : meth.locks = false) (hRf : 1 ≤ R.frames) (hRl : 36 ≤ R.locals) : ∀ pc, bb_Snd p l e R s m args below meth c D bs ad aI aC aS Rp C pc (cd_X6_dump pc) := by
  unfold cd_X6_dump
  refine bb_lkS (fun pc => sd_fail) ?_
  refine bb_lc (sd_iload_n hx dX6_dump_0 rfl) ?_
  refine bb_lc (sd_call hx hcs (fun w h => List.mem_cons_of_mem _ h) dX6_dump_1 wd_213 mS_17) ?_
  refine bb_lc (sd_ifeq hx dX6_dump_4 (by decide)) ?_
  refine bb_lc (sd_iload_n hx dX6_dump_7 rfl) ?_
  refine bb_lc (sd_call hx hcs (fun w h => List.mem_cons_of_mem _ h) dX6_dump_8 wd_214 mS_18) ?_
  refine bb_lc (sd_ifne hx dX6_dump_11 (by decide)) ?_
  refine bb_lc (sd_sipush hx dX6_dump_14 (by decide)) ?_
  refine bb_lc (sd_iret hx dX6_dump_17 hr hlk) ?_
  refine bb_lc (sd_iload_n hx dX6_dump_18 rfl) ?_
  refine bb_lc (sd_iflt hx dX6_dump_19 (by decide)) ?_
  refine bb_lc (sd_iload_n hx dX6_dump_22 rfl) ?_
  refine bb_lc (sd_bipush hx dX6_dump_23 (by decide)) ?_
  refine bb_lc (sd_icle hx dX6_dump_25 (by decide)) ?_
  refine bb_lc (sd_sipush hx dX6_dump_28 (by decide)) ?_
  refine bb_lc (sd_iret hx dX6_dump_31 hr hlk) ?_
  refine bb_lc (sd_aload_n hx dX6_dump_32 rfl) ?_
  refine bb_lc (sd_getR (k := 6) (sl := 0) hx dX6_dump_33 rfl (fun w h => List.mem_cons_of_mem _ (wc_6 w h)) (by decide) (by decide) (List.mem_cons_of_mem _ wd_215) (fun _ h9 => h9) rfl (fun i _ => (by decide))) ?_
  refine bb_lc (sd_getRN (host := "BeachBars") (ref := "BeachBars$State") (k := 4) (sl := 0) hx dX6_dump_36 rfl (fun w h => List.mem_cons_of_mem _ (wc_4 w h)) (by decide) (by decide) (by decide +kernel) (fun _ h9 => h9) rfl (fun i h => Nat.lt_of_lt_of_le h (by decide))) ?_
  refine bb_lc (sd_iload_n hx dX6_dump_39 rfl) ?_
  refine bb_lc (sd_iload_n hx dX6_dump_40 rfl) ?_
  refine bb_lc (sd_callv hx hcs (fun w h => List.mem_cons_of_mem _ h) dX6_dump_41 wd_216 mV_44) ?_
  refine bb_lc (sd_istore hx dX6_dump_44) ?_
  refine bb_lc (sd_iload hx dX6_dump_46) ?_
  refine bb_lc (sd_iload_n hx dX6_dump_48 rfl) ?_
  refine bb_lc (sd_icne hx dX6_dump_49 (by decide)) ?_
  refine bb_lc (sd_sipush hx dX6_dump_52 (by decide)) ?_
  refine bb_lc (sd_iret hx dX6_dump_55 hr hlk) ?_
  refine bb_lc (sd_aload_n hx dX6_dump_56 rfl) ?_
  refine bb_lc (sd_getR (k := 6) (sl := 4) hx dX6_dump_57 rfl (fun w h => List.mem_cons_of_mem _ (wc_6 w h)) (by decide) (by decide) (List.mem_cons_of_mem _ wd_217) (fun _ h9 => h9) rfl (fun i _ => (by decide))) ?_
  refine bb_lc (sd_aload_n hx dX6_dump_60 rfl) ?_
  refine bb_lc (sd_getR (k := 6) (sl := 0) hx dX6_dump_61 rfl (fun w h => List.mem_cons_of_mem _ (wc_6 w h)) (by decide) (by decide) (List.mem_cons_of_mem _ wd_215) (fun _ h9 => h9) rfl (fun i _ => (by decide))) ?_
  refine bb_lc (sd_callv hx hcs (fun w h => List.mem_cons_of_mem _ h) dX6_dump_64 wd_218 mV_27) ?_
  refine bb_lc (sd_aload_n hx dX6_dump_67 rfl) ?_
  refine bb_lc (sd_getR (k := 6) (sl := 0) hx dX6_dump_68 rfl (fun w h => List.mem_cons_of_mem _ (wc_6 w h)) (by decide) (by decide) (List.mem_cons_of_mem _ wd_215) (fun _ h9 => h9) rfl (fun i _ => (by decide))) ?_
  refine bb_lc (sd_getRN (host := "BeachBars") (ref := "BeachBars$State") (k := 4) (sl := 0) hx dX6_dump_71 rfl (fun w h => List.mem_cons_of_mem _ (wc_4 w h)) (by decide) (by decide) (by decide +kernel) (fun _ h9 => h9) rfl (fun i h => Nat.lt_of_lt_of_le h (by decide))) ?_
  refine bb_lc (sd_iload_n hx dX6_dump_74 rfl) ?_
  refine bb_lc (sd_iload_n hx dX6_dump_75 rfl) ?_
  refine bb_lc (sd_iload_n hx dX6_dump_76 rfl) ?_
  refine bb_lc (sd_callv hx hcs (fun w h => List.mem_cons_of_mem _ h) dX6_dump_77 wd_219 mV_45) ?_
  refine bb_lc (sd_iload_n hx dX6_dump_80 rfl) ?_
  refine bb_lc (sd_iload hx dX6_dump_81) ?_
  refine bb_lc (sd_icle hx dX6_dump_83 (by decide)) ?_
  refine bb_lc (sd_aload_n hx dX6_dump_86 rfl) ?_
  refine bb_lc (sd_getR (k := 6) (sl := 0) hx dX6_dump_87 rfl (fun w h => List.mem_cons_of_mem _ (wc_6 w h)) (by decide) (by decide) (List.mem_cons_of_mem _ wd_215) (fun _ h9 => h9) rfl (fun i _ => (by decide))) ?_
  refine bb_lc (sd_getRN (host := "BeachBars") (ref := "BeachBars$State") (k := 4) (sl := 3) hx dX6_dump_90 rfl (fun w h => List.mem_cons_of_mem _ (wc_4 w h)) (by decide) (by decide) (by decide +kernel) (fun _ h9 => h9) rfl (fun i h => Nat.lt_of_lt_of_le h (by decide))) ?_
  refine bb_lc (sd_iconst hx dX6_dump_93 (by decide)) ?_
  refine bb_lc (sd_dup2 hx dX6_dump_94) ?_
  refine bb_lc (sd_iald hx dX6_dump_95) ?_
  refine bb_lc (sd_iload_n hx dX6_dump_96 rfl) ?_
  refine bb_lc (sd_iload hx dX6_dump_97) ?_
  refine bb_lc (sd_isub hx dX6_dump_99) ?_
  refine bb_lc (sd_iadd hx dX6_dump_100) ?_
  refine bb_lc (sd_iast hx dX6_dump_101) ?_
  refine bb_lc (sd_goto hx dX6_dump_102 (by decide)) ?_
  refine bb_lc (sd_aload_n hx dX6_dump_105 rfl) ?_
  refine bb_lc (sd_getR (k := 6) (sl := 0) hx dX6_dump_106 rfl (fun w h => List.mem_cons_of_mem _ (wc_6 w h)) (by decide) (by decide) (List.mem_cons_of_mem _ wd_215) (fun _ h9 => h9) rfl (fun i _ => (by decide))) ?_
  refine bb_lc (sd_getRN (host := "BeachBars") (ref := "BeachBars$State") (k := 4) (sl := 3) hx dX6_dump_109 rfl (fun w h => List.mem_cons_of_mem _ (wc_4 w h)) (by decide) (by decide) (by decide +kernel) (fun _ h9 => h9) rfl (fun i h => Nat.lt_of_lt_of_le h (by decide))) ?_
  refine bb_lc (sd_iconst hx dX6_dump_112 (by decide)) ?_
  refine bb_lc (sd_dup2 hx dX6_dump_113) ?_
  refine bb_lc (sd_iald hx dX6_dump_114) ?_
  refine bb_lc (sd_iload hx dX6_dump_115) ?_
  refine bb_lc (sd_iload_n hx dX6_dump_117 rfl) ?_
  refine bb_lc (sd_isub hx dX6_dump_118) ?_
  refine bb_lc (sd_iadd hx dX6_dump_119) ?_
  refine bb_lc (sd_iast hx dX6_dump_120) ?_
  refine bb_lc (sd_iload hx dX6_dump_121) ?_
  refine bb_lc (sd_iret hx dX6_dump_123 hr hlk) ?_
  exact bb_ln
set_option maxRecDepth 20000 in
theorem sn_X6_setLevel {p : Program} {l : Launch} {e : Env} {R : Room} {s : State} {m : MethodId} {args : Array Value} {below : List Frame} {meth : Method} {c : Code} {D : va_G} {bs : Nat → Prop} {ad : Nat → Nat → Nat} {aI aC aS : ClassId} {Rp : bb_P} {C : bb_C} (hx : bb_Cx p s m args c D bs ad aI aC aS cX6_setLevel RX6 (bb_ws 3)) (hcs : bb_CS l R D bs ad aI aC aS C) (hr : meth.sig.returnType = some .int) (hlk : meth.locks = false) (hRf : 1 ≤ R.frames) (hRl : 36 ≤ R.locals) : ∀ pc, bb_Snd p l e R s m args below meth c D bs ad aI aC aS Rp C pc (cd_X6_setLevel pc) := by
  unfold cd_X6_setLevel
  refine bb_lkS (fun pc => sd_fail) ?_
  refine bb_lc (sd_iload_n hx dX6_setLevel_0 rfl) ?_
  refine bb_lc (sd_bipush hx dX6_setLevel_1 (by decide)) ?_
  refine bb_lc (sd_iclt hx dX6_setLevel_3 (by decide)) ?_
  refine bb_lc (sd_iload_n hx dX6_setLevel_6 rfl) ?_
  refine bb_lc (sd_bipush hx dX6_setLevel_7 (by decide)) ?_
  refine bb_lc (sd_icle hx dX6_setLevel_9 (by decide)) ?_
  refine bb_lc (sd_sipush hx dX6_setLevel_12 (by decide)) ?_
  refine bb_lc (sd_iret hx dX6_setLevel_15 hr hlk) ?_
  refine bb_lc (sd_aload_n hx dX6_setLevel_16 rfl) ?_
  refine bb_lc (sd_getR (k := 6) (sl := 0) hx dX6_setLevel_17 rfl (fun w h => List.mem_cons_of_mem _ (wc_6 w h)) (by decide) (by decide) (List.mem_cons_of_mem _ wd_215) (fun _ h9 => h9) rfl (fun i _ => (by decide))) ?_
  refine bb_lc (sd_getIN (host := "BeachBars") (ref := "BeachBars$State") (k := 4) (sl := 6) hx dX6_setLevel_20 rfl (fun w h => List.mem_cons_of_mem _ (wc_4 w h)) (by decide) (by decide) (by decide +kernel) (fun _ h9 => h9) rfl) ?_
  refine bb_lc (sd_istore_n hx dX6_setLevel_23 rfl) ?_
  refine bb_lc (sd_iload_n hx dX6_setLevel_24 rfl) ?_
  refine bb_lc (sd_iload_n hx dX6_setLevel_25 rfl) ?_
  refine bb_lc (sd_icne hx dX6_setLevel_26 (by decide)) ?_
  refine bb_lc (sd_sipush hx dX6_setLevel_29 (by decide)) ?_
  refine bb_lc (sd_iret hx dX6_setLevel_32 hr hlk) ?_
  refine bb_lc (sd_aload_n hx dX6_setLevel_33 rfl) ?_
  refine bb_lc (sd_getR (k := 6) (sl := 4) hx dX6_setLevel_34 rfl (fun w h => List.mem_cons_of_mem _ (wc_6 w h)) (by decide) (by decide) (List.mem_cons_of_mem _ wd_217) (fun _ h9 => h9) rfl (fun i _ => (by decide))) ?_
  refine bb_lc (sd_aload_n hx dX6_setLevel_37 rfl) ?_
  refine bb_lc (sd_getR (k := 6) (sl := 0) hx dX6_setLevel_38 rfl (fun w h => List.mem_cons_of_mem _ (wc_6 w h)) (by decide) (by decide) (List.mem_cons_of_mem _ wd_215) (fun _ h9 => h9) rfl (fun i _ => (by decide))) ?_
  refine bb_lc (sd_callv hx hcs (fun w h => List.mem_cons_of_mem _ h) dX6_setLevel_41 wd_218 mV_27) ?_
  refine bb_lc (sd_aload_n hx dX6_setLevel_44 rfl) ?_
  refine bb_lc (sd_getR (k := 6) (sl := 0) hx dX6_setLevel_45 rfl (fun w h => List.mem_cons_of_mem _ (wc_6 w h)) (by decide) (by decide) (List.mem_cons_of_mem _ wd_215) (fun _ h9 => h9) rfl (fun i _ => (by decide))) ?_
  refine bb_lc (sd_iload_n hx dX6_setLevel_48 rfl) ?_
  refine bb_lc (sd_putIN (host := "BeachBars") (ref := "BeachBars$State") (k := 4) (sl := 6) hx dX6_setLevel_49 rfl (fun w h => List.mem_cons_of_mem _ (wc_4 w h)) (by decide) (by decide) (by decide +kernel) (fun _ h9 => h9) rfl (ty0 := tyX4) tyX4_ok nmX4 rfl (by decide +kernel)) ?_
  refine bb_lc (sd_iload_n hx dX6_setLevel_52 rfl) ?_
  refine bb_lc (sd_iret hx dX6_setLevel_53 hr hlk) ?_
  exact bb_ln
set_option maxRecDepth 20000 in
theorem sn_X6_set {p : Program} {l : Launch} {e : Env} {R : Room} {s : State} {m : MethodId} {args : Array Value} {below : List Frame} {meth : Method} {c : Code} {D : va_G} {bs : Nat → Prop} {ad : Nat → Nat → Nat} {aI aC aS : ClassId} {Rp : bb_P} {C : bb_C} (hx : bb_Cx p s m args c D bs ad aI aC aS cX6_set RX6 (bb_ws 4)) (hcs : bb_CS l R D bs ad aI aC aS C) (hr : meth.sig.returnType = some .int) (hlk : meth.locks = false) (hRf : 1 ≤ R.frames) (hRl : 36 ≤ R.locals) : ∀ pc, bb_Snd p l e R s m args below meth c D bs ad aI aC aS Rp C pc (cd_X6_set pc) := by
  unfold cd_X6_set
  refine bb_lkS (fun pc => sd_fail) ?_
  refine bb_lc (sd_iload_n hx dX6_set_0 rfl) ?_
  refine bb_lc (sd_iflt hx dX6_set_1 (by decide)) ?_
  refine bb_lc (sd_iload_n hx dX6_set_4 rfl) ?_
  refine bb_lc (sd_iconst hx dX6_set_5 (by decide)) ?_
  refine bb_lc (sd_iclt hx dX6_set_6 (by decide)) ?_
  refine bb_lc (sd_sipush hx dX6_set_9 (by decide)) ?_
  refine bb_lc (sd_iret hx dX6_set_12 hr hlk) ?_
  refine bb_lc (sd_iload_n hx dX6_set_13 rfl) ?_
  refine bb_lc (sd_getS30 hx dX6_set_14 (List.mem_cons_of_mem _ wd_220)) ?_
  refine bb_lc (sd_iload_n hx dX6_set_17 rfl) ?_
  refine bb_lc (sd_iald hx dX6_set_18) ?_
  refine bb_lc (sd_iclt hx dX6_set_19 (by decide)) ?_
  refine bb_lc (sd_iload_n hx dX6_set_22 rfl) ?_
  refine bb_lc (sd_getS31 hx dX6_set_23 (List.mem_cons_of_mem _ wd_221)) ?_
  refine bb_lc (sd_iload_n hx dX6_set_26 rfl) ?_
  refine bb_lc (sd_iald hx dX6_set_27) ?_
  refine bb_lc (sd_icle hx dX6_set_28 (by decide)) ?_
  refine bb_lc (sd_sipush hx dX6_set_31 (by decide)) ?_
  refine bb_lc (sd_iret hx dX6_set_34 hr hlk) ?_
  refine bb_lc (sd_aload_n hx dX6_set_35 rfl) ?_
  refine bb_lc (sd_getR (k := 6) (sl := 0) hx dX6_set_36 rfl (fun w h => List.mem_cons_of_mem _ (wc_6 w h)) (by decide) (by decide) (List.mem_cons_of_mem _ wd_215) (fun _ h9 => h9) rfl (fun i _ => (by decide))) ?_
  refine bb_lc (sd_getRN (host := "BeachBars") (ref := "BeachBars$State") (k := 4) (sl := 2) hx dX6_set_39 rfl (fun w h => List.mem_cons_of_mem _ (wc_4 w h)) (by decide) (by decide) (by decide +kernel) (fun _ h9 => h9) rfl (fun i h => Nat.lt_of_lt_of_le h (by decide))) ?_
  refine bb_lc (sd_iload_n hx dX6_set_42 rfl) ?_
  refine bb_lc (sd_iald hx dX6_set_43) ?_
  refine bb_lc (sd_istore_n hx dX6_set_44 rfl) ?_
  refine bb_lc (sd_iload_n hx dX6_set_45 rfl) ?_
  refine bb_lc (sd_iload_n hx dX6_set_46 rfl) ?_
  refine bb_lc (sd_icne hx dX6_set_47 (by decide)) ?_
  refine bb_lc (sd_sipush hx dX6_set_50 (by decide)) ?_
  refine bb_lc (sd_iret hx dX6_set_53 hr hlk) ?_
  refine bb_lc (sd_aload_n hx dX6_set_54 rfl) ?_
  refine bb_lc (sd_getR (k := 6) (sl := 4) hx dX6_set_55 rfl (fun w h => List.mem_cons_of_mem _ (wc_6 w h)) (by decide) (by decide) (List.mem_cons_of_mem _ wd_217) (fun _ h9 => h9) rfl (fun i _ => (by decide))) ?_
  refine bb_lc (sd_aload_n hx dX6_set_58 rfl) ?_
  refine bb_lc (sd_getR (k := 6) (sl := 0) hx dX6_set_59 rfl (fun w h => List.mem_cons_of_mem _ (wc_6 w h)) (by decide) (by decide) (List.mem_cons_of_mem _ wd_215) (fun _ h9 => h9) rfl (fun i _ => (by decide))) ?_
  refine bb_lc (sd_callv hx hcs (fun w h => List.mem_cons_of_mem _ h) dX6_set_62 wd_218 mV_27) ?_
  refine bb_lc (sd_aload_n hx dX6_set_65 rfl) ?_
  refine bb_lc (sd_getR (k := 6) (sl := 0) hx dX6_set_66 rfl (fun w h => List.mem_cons_of_mem _ (wc_6 w h)) (by decide) (by decide) (List.mem_cons_of_mem _ wd_215) (fun _ h9 => h9) rfl (fun i _ => (by decide))) ?_
  refine bb_lc (sd_getRN (host := "BeachBars") (ref := "BeachBars$State") (k := 4) (sl := 2) hx dX6_set_69 rfl (fun w h => List.mem_cons_of_mem _ (wc_4 w h)) (by decide) (by decide) (by decide +kernel) (fun _ h9 => h9) rfl (fun i h => Nat.lt_of_lt_of_le h (by decide))) ?_
  refine bb_lc (sd_iload_n hx dX6_set_72 rfl) ?_
  refine bb_lc (sd_iload_n hx dX6_set_73 rfl) ?_
  refine bb_lc (sd_iast hx dX6_set_74) ?_
  refine bb_lc (sd_iload_n hx dX6_set_75 rfl) ?_
  refine bb_lc (sd_iret hx dX6_set_76 hr hlk) ?_
  exact bb_ln
set_option maxRecDepth 20000 in
theorem sn_X6_wave {p : Program} {l : Launch} {e : Env} {R : Room} {s : State} {m : MethodId} {args : Array Value} {below : List Frame} {meth : Method} {c : Code} {D : va_G} {bs : Nat → Prop} {ad : Nat → Nat → Nat} {aI aC aS : ClassId} {Rp : bb_P} {C : bb_C} (hx : bb_Cx p s m args c D bs ad aI aC aS cX6_wave RX6 (bb_ws 5)) (hcs : bb_CS l R D bs ad aI aC aS C) (hr : meth.sig.returnType = some .int) (hlk : meth.locks = false) (hRf : 1 ≤ R.frames) (hRl : 36 ≤ R.locals) : ∀ pc, bb_Snd p l e R s m args below meth c D bs ad aI aC aS Rp C pc (cd_X6_wave pc) := by
  unfold cd_X6_wave
  refine bb_lkS (fun pc => sd_fail) ?_
  refine bb_lc (sd_iload_n hx dX6_wave_0 rfl) ?_
  refine bb_lc (sd_call hx hcs (fun w h => List.mem_cons_of_mem _ h) dX6_wave_1 wd_213 mS_17) ?_
  refine bb_lc (sd_ifne hx dX6_wave_4 (by decide)) ?_
  refine bb_lc (sd_sipush hx dX6_wave_7 (by decide)) ?_
  refine bb_lc (sd_iret hx dX6_wave_10 hr hlk) ?_
  refine bb_lc (sd_iload_n hx dX6_wave_11 rfl) ?_
  refine bb_lc (sd_call hx hcs (fun w h => List.mem_cons_of_mem _ h) dX6_wave_12 wd_222 mS_19) ?_
  refine bb_lc (sd_ifne hx dX6_wave_15 (by decide)) ?_
  refine bb_lc (sd_sipush hx dX6_wave_18 (by decide)) ?_
  refine bb_lc (sd_iret hx dX6_wave_21 hr hlk) ?_
  refine bb_lc (sd_aload_n hx dX6_wave_22 rfl) ?_
  refine bb_lc (sd_getR (k := 6) (sl := 0) hx dX6_wave_23 rfl (fun w h => List.mem_cons_of_mem _ (wc_6 w h)) (by decide) (by decide) (List.mem_cons_of_mem _ wd_215) (fun _ h9 => h9) rfl (fun i _ => (by decide))) ?_
  refine bb_lc (sd_getRN (host := "BeachBars") (ref := "BeachBars$State") (k := 4) (sl := 1) hx dX6_wave_26 rfl (fun w h => List.mem_cons_of_mem _ (wc_4 w h)) (by decide) (by decide) (by decide +kernel) (fun _ h9 => h9) rfl (fun i h => Nat.lt_of_lt_of_le h (by decide))) ?_
  refine bb_lc (sd_callv hx hcs (fun w h => List.mem_cons_of_mem _ h) dX6_wave_29 wd_223 mV_30) ?_
  refine bb_lc (sd_bipush hx dX6_wave_32 (by decide)) ?_
  refine bb_lc (sd_iclt hx dX6_wave_34 (by decide)) ?_
  refine bb_lc (sd_sipush hx dX6_wave_37 (by decide)) ?_
  refine bb_lc (sd_iret hx dX6_wave_40 hr hlk) ?_
  refine bb_lc (sd_aload_n hx dX6_wave_41 rfl) ?_
  refine bb_lc (sd_getR (k := 6) (sl := 4) hx dX6_wave_42 rfl (fun w h => List.mem_cons_of_mem _ (wc_6 w h)) (by decide) (by decide) (List.mem_cons_of_mem _ wd_217) (fun _ h9 => h9) rfl (fun i _ => (by decide))) ?_
  refine bb_lc (sd_aload_n hx dX6_wave_45 rfl) ?_
  refine bb_lc (sd_getR (k := 6) (sl := 0) hx dX6_wave_46 rfl (fun w h => List.mem_cons_of_mem _ (wc_6 w h)) (by decide) (by decide) (List.mem_cons_of_mem _ wd_215) (fun _ h9 => h9) rfl (fun i _ => (by decide))) ?_
  refine bb_lc (sd_callv hx hcs (fun w h => List.mem_cons_of_mem _ h) dX6_wave_49 wd_218 mV_27) ?_
  refine bb_lc (sd_aload_n hx dX6_wave_52 rfl) ?_
  refine bb_lc (sd_getR (k := 6) (sl := 0) hx dX6_wave_53 rfl (fun w h => List.mem_cons_of_mem _ (wc_6 w h)) (by decide) (by decide) (List.mem_cons_of_mem _ wd_215) (fun _ h9 => h9) rfl (fun i _ => (by decide))) ?_
  refine bb_lc (sd_getRN (host := "BeachBars") (ref := "BeachBars$State") (k := 4) (sl := 1) hx dX6_wave_56 rfl (fun w h => List.mem_cons_of_mem _ (wc_4 w h)) (by decide) (by decide) (by decide +kernel) (fun _ h9 => h9) rfl (fun i h => Nat.lt_of_lt_of_le h (by decide))) ?_
  refine bb_lc (sd_iload_n hx dX6_wave_59 rfl) ?_
  refine bb_lc (sd_iload_n hx dX6_wave_60 rfl) ?_
  refine bb_lc (sd_callv hx hcs (fun w h => List.mem_cons_of_mem _ h) dX6_wave_61 wd_224 mV_33) ?_
  refine bb_lc (sd_aload_n hx dX6_wave_64 rfl) ?_
  refine bb_lc (sd_getR (k := 6) (sl := 0) hx dX6_wave_65 rfl (fun w h => List.mem_cons_of_mem _ (wc_6 w h)) (by decide) (by decide) (List.mem_cons_of_mem _ wd_215) (fun _ h9 => h9) rfl (fun i _ => (by decide))) ?_
  refine bb_lc (sd_getRN (host := "BeachBars") (ref := "BeachBars$State") (k := 4) (sl := 1) hx dX6_wave_68 rfl (fun w h => List.mem_cons_of_mem _ (wc_4 w h)) (by decide) (by decide) (by decide +kernel) (fun _ h9 => h9) rfl (fun i h => Nat.lt_of_lt_of_le h (by decide))) ?_
  refine bb_lc (sd_callv hx hcs (fun w h => List.mem_cons_of_mem _ h) dX6_wave_71 wd_223 mV_30) ?_
  refine bb_lc (sd_iret hx dX6_wave_74 hr hlk) ?_
  exact bb_ln
set_option maxRecDepth 20000 in
theorem sn_X6_strike {p : Program} {l : Launch} {e : Env} {R : Room} {s : State} {m : MethodId} {args : Array Value} {below : List Frame} {meth : Method} {c : Code} {D : va_G} {bs : Nat → Prop} {ad : Nat → Nat → Nat} {aI aC aS : ClassId} {Rp : bb_P} {C : bb_C} (hx : bb_Cx p s m args c D bs ad aI aC aS cX6_strike RX6 (bb_ws 6)) (hcs : bb_CS l R D bs ad aI aC aS C) (hr : meth.sig.returnType = some .int) (hlk : meth.locks = false) (hRf : 1 ≤ R.frames) (hRl : 36 ≤ R.locals) : ∀ pc, bb_Snd p l e R s m args below meth c D bs ad aI aC aS Rp C pc (cd_X6_strike pc) := by
  unfold cd_X6_strike
  refine bb_lkS (fun pc => sd_fail) ?_
  refine bb_lc (sd_iload_n hx dX6_strike_0 rfl) ?_
  refine bb_lc (sd_call hx hcs (fun w h => List.mem_cons_of_mem _ h) dX6_strike_1 wd_222 mS_19) ?_
  refine bb_lc (sd_ifeq hx dX6_strike_4 (by decide)) ?_
  refine bb_lc (sd_iload_n hx dX6_strike_7 rfl) ?_
  refine bb_lc (sd_call hx hcs (fun w h => List.mem_cons_of_mem _ h) dX6_strike_8 wd_222 mS_19) ?_
  refine bb_lc (sd_ifeq hx dX6_strike_11 (by decide)) ?_
  refine bb_lc (sd_iload_n hx dX6_strike_14 rfl) ?_
  refine bb_lc (sd_iload_n hx dX6_strike_15 rfl) ?_
  refine bb_lc (sd_icge hx dX6_strike_16 (by decide)) ?_
  refine bb_lc (sd_sipush hx dX6_strike_19 (by decide)) ?_
  refine bb_lc (sd_iret hx dX6_strike_22 hr hlk) ?_
  refine bb_lc (sd_aload_n hx dX6_strike_23 rfl) ?_
  refine bb_lc (sd_getR (k := 6) (sl := 0) hx dX6_strike_24 rfl (fun w h => List.mem_cons_of_mem _ (wc_6 w h)) (by decide) (by decide) (List.mem_cons_of_mem _ wd_215) (fun _ h9 => h9) rfl (fun i _ => (by decide))) ?_
  refine bb_lc (sd_getRN (host := "BeachBars") (ref := "BeachBars$State") (k := 4) (sl := 1) hx dX6_strike_27 rfl (fun w h => List.mem_cons_of_mem _ (wc_4 w h)) (by decide) (by decide) (by decide +kernel) (fun _ h9 => h9) rfl (fun i h => Nat.lt_of_lt_of_le h (by decide))) ?_
  refine bb_lc (sd_iload_n hx dX6_strike_30 rfl) ?_
  refine bb_lc (sd_iload_n hx dX6_strike_31 rfl) ?_
  refine bb_lc (sd_callv hx hcs (fun w h => List.mem_cons_of_mem _ h) dX6_strike_32 wd_225 mV_34) ?_
  refine bb_lc (sd_ifne hx dX6_strike_35 (by decide)) ?_
  refine bb_lc (sd_sipush hx dX6_strike_38 (by decide)) ?_
  refine bb_lc (sd_iret hx dX6_strike_41 hr hlk) ?_
  refine bb_lc (sd_aload_n hx dX6_strike_42 rfl) ?_
  refine bb_lc (sd_getR (k := 6) (sl := 4) hx dX6_strike_43 rfl (fun w h => List.mem_cons_of_mem _ (wc_6 w h)) (by decide) (by decide) (List.mem_cons_of_mem _ wd_217) (fun _ h9 => h9) rfl (fun i _ => (by decide))) ?_
  refine bb_lc (sd_aload_n hx dX6_strike_46 rfl) ?_
  refine bb_lc (sd_getR (k := 6) (sl := 0) hx dX6_strike_47 rfl (fun w h => List.mem_cons_of_mem _ (wc_6 w h)) (by decide) (by decide) (List.mem_cons_of_mem _ wd_215) (fun _ h9 => h9) rfl (fun i _ => (by decide))) ?_
  refine bb_lc (sd_callv hx hcs (fun w h => List.mem_cons_of_mem _ h) dX6_strike_50 wd_218 mV_27) ?_
  refine bb_lc (sd_aload_n hx dX6_strike_53 rfl) ?_
  refine bb_lc (sd_getR (k := 6) (sl := 0) hx dX6_strike_54 rfl (fun w h => List.mem_cons_of_mem _ (wc_6 w h)) (by decide) (by decide) (List.mem_cons_of_mem _ wd_215) (fun _ h9 => h9) rfl (fun i _ => (by decide))) ?_
  refine bb_lc (sd_getRN (host := "BeachBars") (ref := "BeachBars$State") (k := 4) (sl := 1) hx dX6_strike_57 rfl (fun w h => List.mem_cons_of_mem _ (wc_4 w h)) (by decide) (by decide) (by decide +kernel) (fun _ h9 => h9) rfl (fun i h => Nat.lt_of_lt_of_le h (by decide))) ?_
  refine bb_lc (sd_iload_n hx dX6_strike_60 rfl) ?_
  refine bb_lc (sd_iload_n hx dX6_strike_61 rfl) ?_
  refine bb_lc (sd_callv hx hcs (fun w h => List.mem_cons_of_mem _ h) dX6_strike_62 wd_226 mV_35) ?_
  refine bb_lc (sd_iret hx dX6_strike_65 hr hlk) ?_
  exact bb_ln
set_option maxRecDepth 20000 in
theorem sn_X6_run {p : Program} {l : Launch} {e : Env} {R : Room} {s : State} {m : MethodId} {args : Array Value} {below : List Frame} {meth : Method} {c : Code} {D : va_G} {bs : Nat → Prop} {ad : Nat → Nat → Nat} {aI aC aS : ClassId} {Rp : bb_P} {C : bb_C} (hx : bb_Cx p s m args c D bs ad aI aC aS cX6_run RX6 (bb_ws 7)) (hcs : bb_CS l R D bs ad aI aC aS C) (hr : meth.sig.returnType = some .int) (hlk : meth.locks = false) (hRf : 1 ≤ R.frames) (hRl : 36 ≤ R.locals) : ∀ pc, bb_Snd p l e R s m args below meth c D bs ad aI aC aS Rp C pc (cd_X6_run pc) := by
  unfold cd_X6_run
  refine bb_lkS (fun pc => sd_fail) ?_
  refine bb_lc (sd_iload_n hx dX6_run_0 rfl) ?_
  refine bb_lc (sd_iflt hx dX6_run_1 (by decide)) ?_
  refine bb_lc (sd_iload_n hx dX6_run_4 rfl) ?_
  refine bb_lc (sd_bipush hx dX6_run_5 (by decide)) ?_
  refine bb_lc (sd_icle hx dX6_run_7 (by decide)) ?_
  refine bb_lc (sd_sipush hx dX6_run_10 (by decide)) ?_
  refine bb_lc (sd_iret hx dX6_run_13 hr hlk) ?_
  refine bb_lc (sd_aload_n hx dX6_run_14 rfl) ?_
  refine bb_lc (sd_getR (k := 6) (sl := 0) hx dX6_run_15 rfl (fun w h => List.mem_cons_of_mem _ (wc_6 w h)) (by decide) (by decide) (List.mem_cons_of_mem _ wd_215) (fun _ h9 => h9) rfl (fun i _ => (by decide))) ?_
  refine bb_lc (sd_getRN (host := "BeachBars") (ref := "BeachBars$State") (k := 4) (sl := 1) hx dX6_run_18 rfl (fun w h => List.mem_cons_of_mem _ (wc_4 w h)) (by decide) (by decide) (by decide +kernel) (fun _ h9 => h9) rfl (fun i h => Nat.lt_of_lt_of_le h (by decide))) ?_
  refine bb_lc (sd_callv hx hcs (fun w h => List.mem_cons_of_mem _ h) dX6_run_21 wd_223 mV_30) ?_
  refine bb_lc (sd_ifne hx dX6_run_24 (by decide)) ?_
  refine bb_lc (sd_sipush hx dX6_run_27 (by decide)) ?_
  refine bb_lc (sd_iret hx dX6_run_30 hr hlk) ?_
  refine bb_lc (sd_aload_n hx dX6_run_31 rfl) ?_
  refine bb_lc (sd_getR (k := 6) (sl := 4) hx dX6_run_32 rfl (fun w h => List.mem_cons_of_mem _ (wc_6 w h)) (by decide) (by decide) (List.mem_cons_of_mem _ wd_217) (fun _ h9 => h9) rfl (fun i _ => (by decide))) ?_
  refine bb_lc (sd_aload_n hx dX6_run_35 rfl) ?_
  refine bb_lc (sd_getR (k := 6) (sl := 0) hx dX6_run_36 rfl (fun w h => List.mem_cons_of_mem _ (wc_6 w h)) (by decide) (by decide) (List.mem_cons_of_mem _ wd_215) (fun _ h9 => h9) rfl (fun i _ => (by decide))) ?_
  refine bb_lc (sd_callv hx hcs (fun w h => List.mem_cons_of_mem _ h) dX6_run_39 wd_218 mV_27) ?_
  refine bb_lc (sd_aload_n hx dX6_run_42 rfl) ?_
  refine bb_lc (sd_getR (k := 6) (sl := 0) hx dX6_run_43 rfl (fun w h => List.mem_cons_of_mem _ (wc_6 w h)) (by decide) (by decide) (List.mem_cons_of_mem _ wd_215) (fun _ h9 => h9) rfl (fun i _ => (by decide))) ?_
  refine bb_lc (sd_getIN (host := "BeachBars") (ref := "BeachBars$State") (k := 4) (sl := 6) hx dX6_run_46 rfl (fun w h => List.mem_cons_of_mem _ (wc_4 w h)) (by decide) (by decide) (by decide +kernel) (fun _ h9 => h9) rfl) ?_
  refine bb_lc (sd_iload_n hx dX6_run_49 rfl) ?_
  refine bb_lc (sd_iadd hx dX6_run_50) ?_
  refine bb_lc (sd_istore_n hx dX6_run_51 rfl) ?_
  refine bb_lc (sd_aload_n hx dX6_run_52 rfl) ?_
  refine bb_lc (sd_iload_n hx dX6_run_53 rfl) ?_
  refine bb_lc (sd_callv hx hcs (fun w h => List.mem_cons_of_mem _ h) dX6_run_54 wd_227 mV_22) ?_
  refine bb_lc (sd_istore_n hx dX6_run_57 rfl) ?_
  refine bb_lc (sd_aload_n hx dX6_run_58 rfl) ?_
  refine bb_lc (sd_iload_n hx dX6_run_59 rfl) ?_
  refine bb_lc (sd_callv hx hcs (fun w h => List.mem_cons_of_mem _ h) dX6_run_60 wd_228 mV_25) ?_
  refine bb_lc (sd_pop hx dX6_run_63) ?_
  refine bb_lc (sd_aload_n hx dX6_run_64 rfl) ?_
  refine bb_lc (sd_getR (k := 6) (sl := 0) hx dX6_run_65 rfl (fun w h => List.mem_cons_of_mem _ (wc_6 w h)) (by decide) (by decide) (List.mem_cons_of_mem _ wd_215) (fun _ h9 => h9) rfl (fun i _ => (by decide))) ?_
  refine bb_lc (sd_getRN (host := "BeachBars") (ref := "BeachBars$State") (k := 4) (sl := 1) hx dX6_run_68 rfl (fun w h => List.mem_cons_of_mem _ (wc_4 w h)) (by decide) (by decide) (by decide +kernel) (fun _ h9 => h9) rfl (fun i h => Nat.lt_of_lt_of_le h (by decide))) ?_
  refine bb_lc (sd_callv hx hcs (fun w h => List.mem_cons_of_mem _ h) dX6_run_71 wd_229 mV_36) ?_
  refine bb_lc (sd_iload_n hx dX6_run_74 rfl) ?_
  refine bb_lc (sd_iret hx dX6_run_75 hr hlk) ?_
  exact bb_ln
set_option maxRecDepth 20000 in
theorem sn_X6_settle {p : Program} {l : Launch} {e : Env} {R : Room} {s : State} {m : MethodId} {args : Array Value} {below : List Frame} {meth : Method} {c : Code} {D : va_G} {bs : Nat → Prop} {ad : Nat → Nat → Nat} {aI aC aS : ClassId} {Rp : bb_P} {C : bb_C} (hx : bb_Cx p s m args c D bs ad aI aC aS cX6_settle RX6 (bb_ws 8)) (hcs : bb_CS l R D bs ad aI aC aS C) (hr : meth.sig.returnType = some .int) (hlk : meth.locks = false) (hRf : 1 ≤ R.frames) (hRl : 36 ≤ R.locals) : ∀ pc, bb_Snd p l e R s m args below meth c D bs ad aI aC aS Rp C pc (cd_X6_settle pc) := by
  unfold cd_X6_settle
  refine bb_lkS (fun pc => sd_fail) ?_
  refine bb_lc (sd_aload_n hx dX6_settle_0 rfl) ?_
  refine bb_lc (sd_getR (k := 6) (sl := 1) hx dX6_settle_1 rfl (fun w h => List.mem_cons_of_mem _ (wc_6 w h)) (by decide) (by decide) (List.mem_cons_of_mem _ wd_230) (fun _ h9 => h9) rfl (fun i _ => (by decide))) ?_
  refine bb_lc (sd_aload_n hx dX6_settle_4 rfl) ?_
  refine bb_lc (sd_getR (k := 6) (sl := 0) hx dX6_settle_5 rfl (fun w h => List.mem_cons_of_mem _ (wc_6 w h)) (by decide) (by decide) (List.mem_cons_of_mem _ wd_215) (fun _ h9 => h9) rfl (fun i _ => (by decide))) ?_
  refine bb_lc (sd_callv hx hcs (fun w h => List.mem_cons_of_mem _ h) dX6_settle_8 wd_231 mV_67) ?_
  refine bb_lc (sd_aload_n hx dX6_settle_11 rfl) ?_
  refine bb_lc (sd_aload_n hx dX6_settle_12 rfl) ?_
  refine bb_lc (sd_getR (k := 6) (sl := 0) hx dX6_settle_13 rfl (fun w h => List.mem_cons_of_mem _ (wc_6 w h)) (by decide) (by decide) (List.mem_cons_of_mem _ wd_215) (fun _ h9 => h9) rfl (fun i _ => (by decide))) ?_
  refine bb_lc (sd_getIN (host := "BeachBars") (ref := "BeachBars$State") (k := 4) (sl := 6) hx dX6_settle_16 rfl (fun w h => List.mem_cons_of_mem _ (wc_4 w h)) (by decide) (by decide) (by decide +kernel) (fun _ h9 => h9) rfl) ?_
  refine bb_lc (sd_callv hx hcs (fun w h => List.mem_cons_of_mem _ h) dX6_settle_19 wd_228 mV_25) ?_
  refine bb_lc (sd_istore_n hx dX6_settle_22 rfl) ?_
  refine bb_lc (sd_iload_n hx dX6_settle_23 rfl) ?_
  refine bb_lc (sd_ifne hx dX6_settle_24 (by decide)) ?_
  refine bb_lc (sd_sipush hx dX6_settle_27 (by decide)) ?_
  refine bb_lc (sd_iret hx dX6_settle_30 hr hlk) ?_
  refine bb_lc (sd_aload_n hx dX6_settle_31 rfl) ?_
  refine bb_lc (sd_getR (k := 6) (sl := 4) hx dX6_settle_32 rfl (fun w h => List.mem_cons_of_mem _ (wc_6 w h)) (by decide) (by decide) (List.mem_cons_of_mem _ wd_217) (fun _ h9 => h9) rfl (fun i _ => (by decide))) ?_
  refine bb_lc (sd_aload_n hx dX6_settle_35 rfl) ?_
  refine bb_lc (sd_getR (k := 6) (sl := 1) hx dX6_settle_36 rfl (fun w h => List.mem_cons_of_mem _ (wc_6 w h)) (by decide) (by decide) (List.mem_cons_of_mem _ wd_230) (fun _ h9 => h9) rfl (fun i _ => (by decide))) ?_
  refine bb_lc (sd_callv hx hcs (fun w h => List.mem_cons_of_mem _ h) dX6_settle_39 wd_218 mV_27) ?_
  refine bb_lc (sd_iload_n hx dX6_settle_42 rfl) ?_
  refine bb_lc (sd_iret hx dX6_settle_43 hr hlk) ?_
  exact bb_ln
set_option maxRecDepth 20000 in
theorem sn_X6_undo {p : Program} {l : Launch} {e : Env} {R : Room} {s : State} {m : MethodId} {args : Array Value} {below : List Frame} {meth : Method} {c : Code} {D : va_G} {bs : Nat → Prop} {ad : Nat → Nat → Nat} {aI aC aS : ClassId} {Rp : bb_P} {C : bb_C} (hx : bb_Cx p s m args c D bs ad aI aC aS cX6_undo RX6 (bb_ws 9)) (hcs : bb_CS l R D bs ad aI aC aS C) (hr : meth.sig.returnType = some .int) (hlk : meth.locks = false) (hRf : 1 ≤ R.frames) (hRl : 36 ≤ R.locals) : ∀ pc, bb_Snd p l e R s m args below meth c D bs ad aI aC aS Rp C pc (cd_X6_undo pc) := by
  unfold cd_X6_undo
  refine bb_lkS (fun pc => sd_fail) ?_
  refine bb_lc (sd_aload_n hx dX6_undo_0 rfl) ?_
  refine bb_lc (sd_getR (k := 6) (sl := 4) hx dX6_undo_1 rfl (fun w h => List.mem_cons_of_mem _ (wc_6 w h)) (by decide) (by decide) (List.mem_cons_of_mem _ wd_217) (fun _ h9 => h9) rfl (fun i _ => (by decide))) ?_
  refine bb_lc (sd_callv hx hcs (fun w h => List.mem_cons_of_mem _ h) dX6_undo_4 wd_232 mV_26) ?_
  refine bb_lc (sd_ifne hx dX6_undo_7 (by decide)) ?_
  refine bb_lc (sd_sipush hx dX6_undo_10 (by decide)) ?_
  refine bb_lc (sd_iret hx dX6_undo_13 hr hlk) ?_
  refine bb_lc (sd_aload_n hx dX6_undo_14 rfl) ?_
  refine bb_lc (sd_getR (k := 6) (sl := 4) hx dX6_undo_15 rfl (fun w h => List.mem_cons_of_mem _ (wc_6 w h)) (by decide) (by decide) (List.mem_cons_of_mem _ wd_217) (fun _ h9 => h9) rfl (fun i _ => (by decide))) ?_
  refine bb_lc (sd_aload_n hx dX6_undo_18 rfl) ?_
  refine bb_lc (sd_getR (k := 6) (sl := 0) hx dX6_undo_19 rfl (fun w h => List.mem_cons_of_mem _ (wc_6 w h)) (by decide) (by decide) (List.mem_cons_of_mem _ wd_215) (fun _ h9 => h9) rfl (fun i _ => (by decide))) ?_
  refine bb_lc (sd_callv hx hcs (fun w h => List.mem_cons_of_mem _ h) dX6_undo_22 wd_233 mV_28) ?_
  refine bb_lc (sd_aload_n hx dX6_undo_25 rfl) ?_
  refine bb_lc (sd_getR (k := 6) (sl := 4) hx dX6_undo_26 rfl (fun w h => List.mem_cons_of_mem _ (wc_6 w h)) (by decide) (by decide) (List.mem_cons_of_mem _ wd_217) (fun _ h9 => h9) rfl (fun i _ => (by decide))) ?_
  refine bb_lc (sd_callv hx hcs (fun w h => List.mem_cons_of_mem _ h) dX6_undo_29 wd_232 mV_26) ?_
  refine bb_lc (sd_iret hx dX6_undo_32 hr hlk) ?_
  exact bb_ln
set_option maxRecDepth 20000 in
theorem sn_X6_cell {p : Program} {l : Launch} {e : Env} {R : Room} {s : State} {m : MethodId} {args : Array Value} {below : List Frame} {meth : Method} {c : Code} {D : va_G} {bs : Nat → Prop} {ad : Nat → Nat → Nat} {aI aC aS : ClassId} {Rp : bb_P} {C : bb_C} (hx : bb_Cx p s m args c D bs ad aI aC aS cX6_cell RX6 (bb_ws 10)) (hcs : bb_CS l R D bs ad aI aC aS C) (hr : meth.sig.returnType = some .int) (hlk : meth.locks = false) (hRf : 1 ≤ R.frames) (hRl : 36 ≤ R.locals) : ∀ pc, bb_Snd p l e R s m args below meth c D bs ad aI aC aS Rp C pc (cd_X6_cell pc) := by
  unfold cd_X6_cell
  refine bb_lkS (fun pc => sd_fail) ?_
  refine bb_lc (sd_iload_n hx dX6_cell_0 rfl) ?_
  refine bb_lc (sd_call hx hcs (fun w h => List.mem_cons_of_mem _ h) dX6_cell_1 wd_213 mS_17) ?_
  refine bb_lc (sd_ifeq hx dX6_cell_4 (by decide)) ?_
  refine bb_lc (sd_iload_n hx dX6_cell_7 rfl) ?_
  refine bb_lc (sd_call hx hcs (fun w h => List.mem_cons_of_mem _ h) dX6_cell_8 wd_214 mS_18) ?_
  refine bb_lc (sd_ifne hx dX6_cell_11 (by decide)) ?_
  refine bb_lc (sd_sipush hx dX6_cell_14 (by decide)) ?_
  refine bb_lc (sd_iret hx dX6_cell_17 hr hlk) ?_
  refine bb_lc (sd_aload_n hx dX6_cell_18 rfl) ?_
  refine bb_lc (sd_getR (k := 6) (sl := 0) hx dX6_cell_19 rfl (fun w h => List.mem_cons_of_mem _ (wc_6 w h)) (by decide) (by decide) (List.mem_cons_of_mem _ wd_215) (fun _ h9 => h9) rfl (fun i _ => (by decide))) ?_
  refine bb_lc (sd_getRN (host := "BeachBars") (ref := "BeachBars$State") (k := 4) (sl := 0) hx dX6_cell_22 rfl (fun w h => List.mem_cons_of_mem _ (wc_4 w h)) (by decide) (by decide) (by decide +kernel) (fun _ h9 => h9) rfl (fun i h => Nat.lt_of_lt_of_le h (by decide))) ?_
  refine bb_lc (sd_astore hx dX6_cell_25) ?_
  refine bb_lc (sd_iload_n hx dX6_cell_27 rfl) ?_
  refine bb_lc (sd_tsw hx dX6_cell_28 (by decide) (by decide) (by decide)) ?_
  refine bb_lc (sd_aload hx dX6_cell_64) ?_
  refine bb_lc (sd_iload_n hx dX6_cell_66 rfl) ?_
  refine bb_lc (sd_iload_n hx dX6_cell_67 rfl) ?_
  refine bb_lc (sd_callv hx hcs (fun w h => List.mem_cons_of_mem _ h) dX6_cell_68 wd_216 mV_44) ?_
  refine bb_lc (sd_iret hx dX6_cell_71 hr hlk) ?_
  refine bb_lc (sd_aload_n hx dX6_cell_72 rfl) ?_
  refine bb_lc (sd_getR (k := 6) (sl := 0) hx dX6_cell_73 rfl (fun w h => List.mem_cons_of_mem _ (wc_6 w h)) (by decide) (by decide) (List.mem_cons_of_mem _ wd_215) (fun _ h9 => h9) rfl (fun i _ => (by decide))) ?_
  refine bb_lc (sd_getIN (host := "BeachBars") (ref := "BeachBars$State") (k := 4) (sl := 6) hx dX6_cell_76 rfl (fun w h => List.mem_cons_of_mem _ (wc_4 w h)) (by decide) (by decide) (by decide +kernel) (fun _ h9 => h9) rfl) ?_
  refine bb_lc (sd_aload hx dX6_cell_79) ?_
  refine bb_lc (sd_iload_n hx dX6_cell_81 rfl) ?_
  refine bb_lc (sd_iload_n hx dX6_cell_82 rfl) ?_
  refine bb_lc (sd_callv hx hcs (fun w h => List.mem_cons_of_mem _ h) dX6_cell_83 wd_216 mV_44) ?_
  refine bb_lc (sd_isub hx dX6_cell_86) ?_
  refine bb_lc (sd_iret hx dX6_cell_87 hr hlk) ?_
  refine bb_lc (sd_aload hx dX6_cell_88) ?_
  refine bb_lc (sd_iload_n hx dX6_cell_90 rfl) ?_
  refine bb_lc (sd_iload_n hx dX6_cell_91 rfl) ?_
  refine bb_lc (sd_aload_n hx dX6_cell_92 rfl) ?_
  refine bb_lc (sd_getR (k := 6) (sl := 0) hx dX6_cell_93 rfl (fun w h => List.mem_cons_of_mem _ (wc_6 w h)) (by decide) (by decide) (List.mem_cons_of_mem _ wd_215) (fun _ h9 => h9) rfl (fun i _ => (by decide))) ?_
  refine bb_lc (sd_getIN (host := "BeachBars") (ref := "BeachBars$State") (k := 4) (sl := 6) hx dX6_cell_96 rfl (fun w h => List.mem_cons_of_mem _ (wc_4 w h)) (by decide) (by decide) (by decide +kernel) (fun _ h9 => h9) rfl) ?_
  refine bb_lc (sd_callv hx hcs (fun w h => List.mem_cons_of_mem _ h) dX6_cell_99 wd_234 mV_51) ?_
  refine bb_lc (sd_ifeq hx dX6_cell_102 (by decide)) ?_
  refine bb_lc (sd_iconst hx dX6_cell_105 (by decide)) ?_
  refine bb_lc (sd_goto hx dX6_cell_106 (by decide)) ?_
  refine bb_lc (sd_iconst hx dX6_cell_109 (by decide)) ?_
  refine bb_lc (sd_iret hx dX6_cell_110 hr hlk) ?_
  refine bb_lc (sd_aload hx dX6_cell_111) ?_
  refine bb_lc (sd_iload_n hx dX6_cell_113 rfl) ?_
  refine bb_lc (sd_iload_n hx dX6_cell_114 rfl) ?_
  refine bb_lc (sd_aload_n hx dX6_cell_115 rfl) ?_
  refine bb_lc (sd_getR (k := 6) (sl := 0) hx dX6_cell_116 rfl (fun w h => List.mem_cons_of_mem _ (wc_6 w h)) (by decide) (by decide) (List.mem_cons_of_mem _ wd_215) (fun _ h9 => h9) rfl (fun i _ => (by decide))) ?_
  refine bb_lc (sd_getIN (host := "BeachBars") (ref := "BeachBars$State") (k := 4) (sl := 6) hx dX6_cell_119 rfl (fun w h => List.mem_cons_of_mem _ (wc_4 w h)) (by decide) (by decide) (by decide +kernel) (fun _ h9 => h9) rfl) ?_
  refine bb_lc (sd_aload_n hx dX6_cell_122 rfl) ?_
  refine bb_lc (sd_getR (k := 6) (sl := 0) hx dX6_cell_123 rfl (fun w h => List.mem_cons_of_mem _ (wc_6 w h)) (by decide) (by decide) (List.mem_cons_of_mem _ wd_215) (fun _ h9 => h9) rfl (fun i _ => (by decide))) ?_
  refine bb_lc (sd_getRN (host := "BeachBars") (ref := "BeachBars$State") (k := 4) (sl := 2) hx dX6_cell_126 rfl (fun w h => List.mem_cons_of_mem _ (wc_4 w h)) (by decide) (by decide) (by decide +kernel) (fun _ h9 => h9) rfl (fun i h => Nat.lt_of_lt_of_le h (by decide))) ?_
  refine bb_lc (sd_iconst hx dX6_cell_129 (by decide)) ?_
  refine bb_lc (sd_iald hx dX6_cell_130) ?_
  refine bb_lc (sd_callv hx hcs (fun w h => List.mem_cons_of_mem _ h) dX6_cell_131 wd_235 mV_52) ?_
  refine bb_lc (sd_ifeq hx dX6_cell_134 (by decide)) ?_
  refine bb_lc (sd_iconst hx dX6_cell_137 (by decide)) ?_
  refine bb_lc (sd_goto hx dX6_cell_138 (by decide)) ?_
  refine bb_lc (sd_iconst hx dX6_cell_141 (by decide)) ?_
  refine bb_lc (sd_iret hx dX6_cell_142 hr hlk) ?_
  refine bb_lc (sd_aload hx dX6_cell_143) ?_
  refine bb_lc (sd_iload_n hx dX6_cell_145 rfl) ?_
  refine bb_lc (sd_iload_n hx dX6_cell_146 rfl) ?_
  refine bb_lc (sd_callv hx hcs (fun w h => List.mem_cons_of_mem _ h) dX6_cell_147 wd_216 mV_44) ?_
  refine bb_lc (sd_iload_n hx dX6_cell_150 rfl) ?_
  refine bb_lc (sd_call hx hcs (fun w h => List.mem_cons_of_mem _ h) dX6_cell_151 wd_236 mS_20) ?_
  refine bb_lc (sd_isub hx dX6_cell_154) ?_
  refine bb_lc (sd_iret hx dX6_cell_155 hr hlk) ?_
  refine bb_lc (sd_sipush hx dX6_cell_156 (by decide)) ?_
  refine bb_lc (sd_iret hx dX6_cell_159 hr hlk) ?_
  exact bb_ln
set_option maxRecDepth 20000 in
theorem sn_X6_row {p : Program} {l : Launch} {e : Env} {R : Room} {s : State} {m : MethodId} {args : Array Value} {below : List Frame} {meth : Method} {c : Code} {D : va_G} {bs : Nat → Prop} {ad : Nat → Nat → Nat} {aI aC aS : ClassId} {Rp : bb_P} {C : bb_C} (hx : bb_Cx p s m args c D bs ad aI aC aS cX6_row RX6 (bb_ws 11)) (hcs : bb_CS l R D bs ad aI aC aS C) (hr : meth.sig.returnType = some .int) (hlk : meth.locks = false) (hRf : 1 ≤ R.frames) (hRl : 36 ≤ R.locals) : ∀ pc, bb_Snd p l e R s m args below meth c D bs ad aI aC aS Rp C pc (cd_X6_row pc) := by
  unfold cd_X6_row
  refine bb_lkS (fun pc => sd_fail) ?_
  refine bb_lc (sd_iload_n hx dX6_row_0 rfl) ?_
  refine bb_lc (sd_call hx hcs (fun w h => List.mem_cons_of_mem _ h) dX6_row_1 wd_213 mS_17) ?_
  refine bb_lc (sd_ifne hx dX6_row_4 (by decide)) ?_
  refine bb_lc (sd_sipush hx dX6_row_7 (by decide)) ?_
  refine bb_lc (sd_iret hx dX6_row_10 hr hlk) ?_
  refine bb_lc (sd_aload_n hx dX6_row_11 rfl) ?_
  refine bb_lc (sd_getR (k := 6) (sl := 0) hx dX6_row_12 rfl (fun w h => List.mem_cons_of_mem _ (wc_6 w h)) (by decide) (by decide) (List.mem_cons_of_mem _ wd_215) (fun _ h9 => h9) rfl (fun i _ => (by decide))) ?_
  refine bb_lc (sd_getRN (host := "BeachBars") (ref := "BeachBars$State") (k := 4) (sl := 0) hx dX6_row_15 rfl (fun w h => List.mem_cons_of_mem _ (wc_4 w h)) (by decide) (by decide) (by decide +kernel) (fun _ h9 => h9) rfl (fun i h => Nat.lt_of_lt_of_le h (by decide))) ?_
  refine bb_lc (sd_astore_n hx dX6_row_18 rfl) ?_
  refine bb_lc (sd_iload_n hx dX6_row_19 rfl) ?_
  refine bb_lc (sd_tsw hx dX6_row_20 (by decide) (by decide) (by decide)) ?_
  refine bb_lc (sd_aload_n hx dX6_row_64 rfl) ?_
  refine bb_lc (sd_iload_n hx dX6_row_65 rfl) ?_
  refine bb_lc (sd_callv hx hcs (fun w h => List.mem_cons_of_mem _ h) dX6_row_66 wd_237 mV_49) ?_
  refine bb_lc (sd_iret hx dX6_row_69 hr hlk) ?_
  refine bb_lc (sd_aload_n hx dX6_row_70 rfl) ?_
  refine bb_lc (sd_iload_n hx dX6_row_71 rfl) ?_
  refine bb_lc (sd_aload_n hx dX6_row_72 rfl) ?_
  refine bb_lc (sd_getR (k := 6) (sl := 0) hx dX6_row_73 rfl (fun w h => List.mem_cons_of_mem _ (wc_6 w h)) (by decide) (by decide) (List.mem_cons_of_mem _ wd_215) (fun _ h9 => h9) rfl (fun i _ => (by decide))) ?_
  refine bb_lc (sd_getIN (host := "BeachBars") (ref := "BeachBars$State") (k := 4) (sl := 6) hx dX6_row_76 rfl (fun w h => List.mem_cons_of_mem _ (wc_4 w h)) (by decide) (by decide) (by decide +kernel) (fun _ h9 => h9) rfl) ?_
  refine bb_lc (sd_callv hx hcs (fun w h => List.mem_cons_of_mem _ h) dX6_row_79 wd_238 mV_54) ?_
  refine bb_lc (sd_call hx hcs (fun w h => List.mem_cons_of_mem _ h) dX6_row_82 wd_239 mS_1) ?_
  refine bb_lc (sd_iret hx dX6_row_85 hr hlk) ?_
  refine bb_lc (sd_aload_n hx dX6_row_86 rfl) ?_
  refine bb_lc (sd_iload_n hx dX6_row_87 rfl) ?_
  refine bb_lc (sd_aload_n hx dX6_row_88 rfl) ?_
  refine bb_lc (sd_getR (k := 6) (sl := 0) hx dX6_row_89 rfl (fun w h => List.mem_cons_of_mem _ (wc_6 w h)) (by decide) (by decide) (List.mem_cons_of_mem _ wd_215) (fun _ h9 => h9) rfl (fun i _ => (by decide))) ?_
  refine bb_lc (sd_getIN (host := "BeachBars") (ref := "BeachBars$State") (k := 4) (sl := 6) hx dX6_row_92 rfl (fun w h => List.mem_cons_of_mem _ (wc_4 w h)) (by decide) (by decide) (by decide +kernel) (fun _ h9 => h9) rfl) ?_
  refine bb_lc (sd_aload_n hx dX6_row_95 rfl) ?_
  refine bb_lc (sd_getR (k := 6) (sl := 0) hx dX6_row_96 rfl (fun w h => List.mem_cons_of_mem _ (wc_6 w h)) (by decide) (by decide) (List.mem_cons_of_mem _ wd_215) (fun _ h9 => h9) rfl (fun i _ => (by decide))) ?_
  refine bb_lc (sd_getRN (host := "BeachBars") (ref := "BeachBars$State") (k := 4) (sl := 2) hx dX6_row_99 rfl (fun w h => List.mem_cons_of_mem _ (wc_4 w h)) (by decide) (by decide) (by decide +kernel) (fun _ h9 => h9) rfl (fun i h => Nat.lt_of_lt_of_le h (by decide))) ?_
  refine bb_lc (sd_iconst hx dX6_row_102 (by decide)) ?_
  refine bb_lc (sd_iald hx dX6_row_103) ?_
  refine bb_lc (sd_callv hx hcs (fun w h => List.mem_cons_of_mem _ h) dX6_row_104 wd_240 mV_55) ?_
  refine bb_lc (sd_call hx hcs (fun w h => List.mem_cons_of_mem _ h) dX6_row_107 wd_239 mS_1) ?_
  refine bb_lc (sd_iret hx dX6_row_110 hr hlk) ?_
  refine bb_lc (sd_aload_n hx dX6_row_111 rfl) ?_
  refine bb_lc (sd_iload_n hx dX6_row_112 rfl) ?_
  refine bb_lc (sd_aload_n hx dX6_row_113 rfl) ?_
  refine bb_lc (sd_getR (k := 6) (sl := 0) hx dX6_row_114 rfl (fun w h => List.mem_cons_of_mem _ (wc_6 w h)) (by decide) (by decide) (List.mem_cons_of_mem _ wd_215) (fun _ h9 => h9) rfl (fun i _ => (by decide))) ?_
  refine bb_lc (sd_getIN (host := "BeachBars") (ref := "BeachBars$State") (k := 4) (sl := 6) hx dX6_row_117 rfl (fun w h => List.mem_cons_of_mem _ (wc_4 w h)) (by decide) (by decide) (by decide +kernel) (fun _ h9 => h9) rfl) ?_
  refine bb_lc (sd_callv hx hcs (fun w h => List.mem_cons_of_mem _ h) dX6_row_120 wd_241 mV_59) ?_
  refine bb_lc (sd_iret hx dX6_row_123 hr hlk) ?_
  refine bb_lc (sd_aload_n hx dX6_row_124 rfl) ?_
  refine bb_lc (sd_iload_n hx dX6_row_125 rfl) ?_
  refine bb_lc (sd_callv hx hcs (fun w h => List.mem_cons_of_mem _ h) dX6_row_126 wd_242 mV_60) ?_
  refine bb_lc (sd_iret hx dX6_row_129 hr hlk) ?_
  refine bb_lc (sd_aload_n hx dX6_row_130 rfl) ?_
  refine bb_lc (sd_iload_n hx dX6_row_131 rfl) ?_
  refine bb_lc (sd_aload_n hx dX6_row_132 rfl) ?_
  refine bb_lc (sd_getR (k := 6) (sl := 0) hx dX6_row_133 rfl (fun w h => List.mem_cons_of_mem _ (wc_6 w h)) (by decide) (by decide) (List.mem_cons_of_mem _ wd_215) (fun _ h9 => h9) rfl (fun i _ => (by decide))) ?_
  refine bb_lc (sd_getIN (host := "BeachBars") (ref := "BeachBars$State") (k := 4) (sl := 6) hx dX6_row_136 rfl (fun w h => List.mem_cons_of_mem _ (wc_4 w h)) (by decide) (by decide) (by decide +kernel) (fun _ h9 => h9) rfl) ?_
  refine bb_lc (sd_callv hx hcs (fun w h => List.mem_cons_of_mem _ h) dX6_row_139 wd_238 mV_54) ?_
  refine bb_lc (sd_iret hx dX6_row_142 hr hlk) ?_
  refine bb_lc (sd_aload_n hx dX6_row_143 rfl) ?_
  refine bb_lc (sd_iload_n hx dX6_row_144 rfl) ?_
  refine bb_lc (sd_aload_n hx dX6_row_145 rfl) ?_
  refine bb_lc (sd_getR (k := 6) (sl := 0) hx dX6_row_146 rfl (fun w h => List.mem_cons_of_mem _ (wc_6 w h)) (by decide) (by decide) (List.mem_cons_of_mem _ wd_215) (fun _ h9 => h9) rfl (fun i _ => (by decide))) ?_
  refine bb_lc (sd_getIN (host := "BeachBars") (ref := "BeachBars$State") (k := 4) (sl := 6) hx dX6_row_149 rfl (fun w h => List.mem_cons_of_mem _ (wc_4 w h)) (by decide) (by decide) (by decide +kernel) (fun _ h9 => h9) rfl) ?_
  refine bb_lc (sd_callv hx hcs (fun w h => List.mem_cons_of_mem _ h) dX6_row_152 wd_243 mV_61) ?_
  refine bb_lc (sd_iret hx dX6_row_155 hr hlk) ?_
  refine bb_lc (sd_sipush hx dX6_row_156 (by decide)) ?_
  refine bb_lc (sd_iret hx dX6_row_159 hr hlk) ?_
  exact bb_ln
set_option maxRecDepth 20000 in
theorem sn_X6_waiting {p : Program} {l : Launch} {e : Env} {R : Room} {s : State} {m : MethodId} {args : Array Value} {below : List Frame} {meth : Method} {c : Code} {D : va_G} {bs : Nat → Prop} {ad : Nat → Nat → Nat} {aI aC aS : ClassId} {Rp : bb_P} {C : bb_C} (hx : bb_Cx p s m args c D bs ad aI aC aS cX6_waiting RX6 (bb_ws 12)) (hcs : bb_CS l R D bs ad aI aC aS C) (hr : meth.sig.returnType = some .int) (hlk : meth.locks = false) (hRf : 1 ≤ R.frames) (hRl : 36 ≤ R.locals) : ∀ pc, bb_Snd p l e R s m args below meth c D bs ad aI aC aS Rp C pc (cd_X6_waiting pc) := by
  unfold cd_X6_waiting
  refine bb_lkS (fun pc => sd_fail) ?_
  refine bb_lc (sd_iload_n hx dX6_waiting_0 rfl) ?_
  refine bb_lc (sd_ifge hx dX6_waiting_1 (by decide)) ?_
  refine bb_lc (sd_sipush hx dX6_waiting_4 (by decide)) ?_
  refine bb_lc (sd_iret hx dX6_waiting_7 hr hlk) ?_
  refine bb_lc (sd_iload_n hx dX6_waiting_8 rfl) ?_
  refine bb_lc (sd_aload_n hx dX6_waiting_9 rfl) ?_
  refine bb_lc (sd_getR (k := 6) (sl := 0) hx dX6_waiting_10 rfl (fun w h => List.mem_cons_of_mem _ (wc_6 w h)) (by decide) (by decide) (List.mem_cons_of_mem _ wd_215) (fun _ h9 => h9) rfl (fun i _ => (by decide))) ?_
  refine bb_lc (sd_getRN (host := "BeachBars") (ref := "BeachBars$State") (k := 4) (sl := 1) hx dX6_waiting_13 rfl (fun w h => List.mem_cons_of_mem _ (wc_4 w h)) (by decide) (by decide) (by decide +kernel) (fun _ h9 => h9) rfl (fun i h => Nat.lt_of_lt_of_le h (by decide))) ?_
  refine bb_lc (sd_callv hx hcs (fun w h => List.mem_cons_of_mem _ h) dX6_waiting_16 wd_223 mV_30) ?_
  refine bb_lc (sd_iclt hx dX6_waiting_19 (by decide)) ?_
  refine bb_lc (sd_sipush hx dX6_waiting_22 (by decide)) ?_
  refine bb_lc (sd_iret hx dX6_waiting_25 hr hlk) ?_
  refine bb_lc (sd_iload_n hx dX6_waiting_26 rfl) ?_
  refine bb_lc (sd_ifeq hx dX6_waiting_27 (by decide)) ?_
  refine bb_lc (sd_aload_n hx dX6_waiting_30 rfl) ?_
  refine bb_lc (sd_getR (k := 6) (sl := 0) hx dX6_waiting_31 rfl (fun w h => List.mem_cons_of_mem _ (wc_6 w h)) (by decide) (by decide) (List.mem_cons_of_mem _ wd_215) (fun _ h9 => h9) rfl (fun i _ => (by decide))) ?_
  refine bb_lc (sd_getRN (host := "BeachBars") (ref := "BeachBars$State") (k := 4) (sl := 1) hx dX6_waiting_34 rfl (fun w h => List.mem_cons_of_mem _ (wc_4 w h)) (by decide) (by decide) (by decide +kernel) (fun _ h9 => h9) rfl (fun i h => Nat.lt_of_lt_of_le h (by decide))) ?_
  refine bb_lc (sd_iload_n hx dX6_waiting_37 rfl) ?_
  refine bb_lc (sd_callv hx hcs (fun w h => List.mem_cons_of_mem _ h) dX6_waiting_38 wd_244 mV_32) ?_
  refine bb_lc (sd_goto hx dX6_waiting_41 (by decide)) ?_
  refine bb_lc (sd_aload_n hx dX6_waiting_44 rfl) ?_
  refine bb_lc (sd_getR (k := 6) (sl := 0) hx dX6_waiting_45 rfl (fun w h => List.mem_cons_of_mem _ (wc_6 w h)) (by decide) (by decide) (List.mem_cons_of_mem _ wd_215) (fun _ h9 => h9) rfl (fun i _ => (by decide))) ?_
  refine bb_lc (sd_getRN (host := "BeachBars") (ref := "BeachBars$State") (k := 4) (sl := 1) hx dX6_waiting_48 rfl (fun w h => List.mem_cons_of_mem _ (wc_4 w h)) (by decide) (by decide) (by decide +kernel) (fun _ h9 => h9) rfl (fun i h => Nat.lt_of_lt_of_le h (by decide))) ?_
  refine bb_lc (sd_iload_n hx dX6_waiting_51 rfl) ?_
  refine bb_lc (sd_callv hx hcs (fun w h => List.mem_cons_of_mem _ h) dX6_waiting_52 wd_245 mV_31) ?_
  refine bb_lc (sd_iret hx dX6_waiting_55 hr hlk) ?_
  exact bb_ln
set_option maxRecDepth 20000 in
theorem sn_X6_ended {p : Program} {l : Launch} {e : Env} {R : Room} {s : State} {m : MethodId} {args : Array Value} {below : List Frame} {meth : Method} {c : Code} {D : va_G} {bs : Nat → Prop} {ad : Nat → Nat → Nat} {aI aC aS : ClassId} {Rp : bb_P} {C : bb_C} (hx : bb_Cx p s m args c D bs ad aI aC aS cX6_ended RX6 (bb_ws 13)) (hcs : bb_CS l R D bs ad aI aC aS C) (hr : meth.sig.returnType = some .int) (hlk : meth.locks = false) (hRf : 1 ≤ R.frames) (hRl : 36 ≤ R.locals) : ∀ pc, bb_Snd p l e R s m args below meth c D bs ad aI aC aS Rp C pc (cd_X6_ended pc) := by
  unfold cd_X6_ended
  refine bb_lkS (fun pc => sd_fail) ?_
  refine bb_lc (sd_iload_n hx dX6_ended_0 rfl) ?_
  refine bb_lc (sd_iflt hx dX6_ended_1 (by decide)) ?_
  refine bb_lc (sd_iload_n hx dX6_ended_4 rfl) ?_
  refine bb_lc (sd_iflt hx dX6_ended_5 (by decide)) ?_
  refine bb_lc (sd_iload_n hx dX6_ended_8 rfl) ?_
  refine bb_lc (sd_bipush hx dX6_ended_9 (by decide)) ?_
  refine bb_lc (sd_iclt hx dX6_ended_11 (by decide)) ?_
  refine bb_lc (sd_sipush hx dX6_ended_14 (by decide)) ?_
  refine bb_lc (sd_iret hx dX6_ended_17 hr hlk) ?_
  refine bb_lc (sd_iload_n hx dX6_ended_18 rfl) ?_
  refine bb_lc (sd_aload_n hx dX6_ended_19 rfl) ?_
  refine bb_lc (sd_getR (k := 6) (sl := 0) hx dX6_ended_20 rfl (fun w h => List.mem_cons_of_mem _ (wc_6 w h)) (by decide) (by decide) (List.mem_cons_of_mem _ wd_215) (fun _ h9 => h9) rfl (fun i _ => (by decide))) ?_
  refine bb_lc (sd_getIN (host := "BeachBars") (ref := "BeachBars$State") (k := 4) (sl := 5) hx dX6_ended_23 rfl (fun w h => List.mem_cons_of_mem _ (wc_4 w h)) (by decide) (by decide) (by decide +kernel) (fun _ h9 => h9) rfl) ?_
  refine bb_lc (sd_iclt hx dX6_ended_26 (by decide)) ?_
  refine bb_lc (sd_sipush hx dX6_ended_29 (by decide)) ?_
  refine bb_lc (sd_iret hx dX6_ended_32 hr hlk) ?_
  refine bb_lc (sd_aload_n hx dX6_ended_33 rfl) ?_
  refine bb_lc (sd_getR (k := 6) (sl := 0) hx dX6_ended_34 rfl (fun w h => List.mem_cons_of_mem _ (wc_6 w h)) (by decide) (by decide) (List.mem_cons_of_mem _ wd_215) (fun _ h9 => h9) rfl (fun i _ => (by decide))) ?_
  refine bb_lc (sd_getRN (host := "BeachBars") (ref := "BeachBars$State") (k := 4) (sl := 4) hx dX6_ended_37 rfl (fun w h => List.mem_cons_of_mem _ (wc_4 w h)) (by decide) (by decide) (by decide +kernel) (fun _ h9 => h9) rfl (fun i h => Nat.lt_of_lt_of_le h (by decide))) ?_
  refine bb_lc (sd_iload_n hx dX6_ended_40 rfl) ?_
  refine bb_lc (sd_bipush hx dX6_ended_41 (by decide)) ?_
  refine bb_lc (sd_imul hx dX6_ended_43) ?_
  refine bb_lc (sd_iload_n hx dX6_ended_44 rfl) ?_
  refine bb_lc (sd_iadd hx dX6_ended_45) ?_
  refine bb_lc (sd_iald hx dX6_ended_46) ?_
  refine bb_lc (sd_iret hx dX6_ended_47 hr hlk) ?_
  exact bb_ln
set_option maxRecDepth 20000 in
theorem sn_X6_would {p : Program} {l : Launch} {e : Env} {R : Room} {s : State} {m : MethodId} {args : Array Value} {below : List Frame} {meth : Method} {c : Code} {D : va_G} {bs : Nat → Prop} {ad : Nat → Nat → Nat} {aI aC aS : ClassId} {Rp : bb_P} {C : bb_C} (hx : bb_Cx p s m args c D bs ad aI aC aS cX6_would RX6 (bb_ws 14)) (hcs : bb_CS l R D bs ad aI aC aS C) (hr : meth.sig.returnType = some .int) (hlk : meth.locks = false) (hRf : 1 ≤ R.frames) (hRl : 36 ≤ R.locals) : ∀ pc, bb_Snd p l e R s m args below meth c D bs ad aI aC aS Rp C pc (cd_X6_would pc) := by
  unfold cd_X6_would
  refine bb_lkS (fun pc => sd_fail) ?_
  refine bb_lc (sd_iload_n hx dX6_would_0 rfl) ?_
  refine bb_lc (sd_call hx hcs (fun w h => List.mem_cons_of_mem _ h) dX6_would_1 wd_213 mS_17) ?_
  refine bb_lc (sd_ifne hx dX6_would_4 (by decide)) ?_
  refine bb_lc (sd_sipush hx dX6_would_7 (by decide)) ?_
  refine bb_lc (sd_iret hx dX6_would_10 hr hlk) ?_
  refine bb_lc (sd_iload_n hx dX6_would_11 rfl) ?_
  refine bb_lc (sd_call hx hcs (fun w h => List.mem_cons_of_mem _ h) dX6_would_12 wd_222 mS_19) ?_
  refine bb_lc (sd_ifeq hx dX6_would_15 (by decide)) ?_
  refine bb_lc (sd_iload_n hx dX6_would_18 rfl) ?_
  refine bb_lc (sd_iconst hx dX6_would_19 (by decide)) ?_
  refine bb_lc (sd_iclt hx dX6_would_20 (by decide)) ?_
  refine bb_lc (sd_iload_n hx dX6_would_23 rfl) ?_
  refine bb_lc (sd_bipush hx dX6_would_24 (by decide)) ?_
  refine bb_lc (sd_iclt hx dX6_would_26 (by decide)) ?_
  refine bb_lc (sd_sipush hx dX6_would_29 (by decide)) ?_
  refine bb_lc (sd_iret hx dX6_would_32 hr hlk) ?_
  refine bb_lc (sd_aload_n hx dX6_would_33 rfl) ?_
  refine bb_lc (sd_getR (k := 6) (sl := 7) hx dX6_would_34 rfl (fun w h => List.mem_cons_of_mem _ (wc_6 w h)) (by decide) (by decide) (List.mem_cons_of_mem _ wd_246) (fun _ h9 => h9) rfl (fun i _ => (by decide))) ?_
  refine bb_lc (sd_aload_n hx dX6_would_37 rfl) ?_
  refine bb_lc (sd_getR (k := 6) (sl := 0) hx dX6_would_38 rfl (fun w h => List.mem_cons_of_mem _ (wc_6 w h)) (by decide) (by decide) (List.mem_cons_of_mem _ wd_215) (fun _ h9 => h9) rfl (fun i _ => (by decide))) ?_
  refine bb_lc (sd_getRN (host := "BeachBars") (ref := "BeachBars$State") (k := 4) (sl := 0) hx dX6_would_41 rfl (fun w h => List.mem_cons_of_mem _ (wc_4 w h)) (by decide) (by decide) (by decide +kernel) (fun _ h9 => h9) rfl (fun i h => Nat.lt_of_lt_of_le h (by decide))) ?_
  refine bb_lc (sd_callv hx hcs (fun w h => List.mem_cons_of_mem _ h) dX6_would_44 wd_247 mV_43) ?_
  refine bb_lc (sd_aload_n hx dX6_would_47 rfl) ?_
  refine bb_lc (sd_getR (k := 6) (sl := 6) hx dX6_would_48 rfl (fun w h => List.mem_cons_of_mem _ (wc_6 w h)) (by decide) (by decide) (List.mem_cons_of_mem _ wd_248) (fun _ h9 => h9) rfl (fun i _ => (by decide))) ?_
  refine bb_lc (sd_aload_n hx dX6_would_51 rfl) ?_
  refine bb_lc (sd_getR (k := 6) (sl := 7) hx dX6_would_52 rfl (fun w h => List.mem_cons_of_mem _ (wc_6 w h)) (by decide) (by decide) (List.mem_cons_of_mem _ wd_246) (fun _ h9 => h9) rfl (fun i _ => (by decide))) ?_
  refine bb_lc (sd_iload_n hx dX6_would_55 rfl) ?_
  refine bb_lc (sd_iload_n hx dX6_would_56 rfl) ?_
  refine bb_lc (sd_aload_n hx dX6_would_57 rfl) ?_
  refine bb_lc (sd_getR (k := 6) (sl := 0) hx dX6_would_58 rfl (fun w h => List.mem_cons_of_mem _ (wc_6 w h)) (by decide) (by decide) (List.mem_cons_of_mem _ wd_215) (fun _ h9 => h9) rfl (fun i _ => (by decide))) ?_
  refine bb_lc (sd_getIN (host := "BeachBars") (ref := "BeachBars$State") (k := 4) (sl := 6) hx dX6_would_61 rfl (fun w h => List.mem_cons_of_mem _ (wc_4 w h)) (by decide) (by decide) (by decide +kernel) (fun _ h9 => h9) rfl) ?_
  refine bb_lc (sd_aload_n hx dX6_would_64 rfl) ?_
  refine bb_lc (sd_iload_n hx dX6_would_65 rfl) ?_
  refine bb_lc (sd_callv hx hcs (fun w h => List.mem_cons_of_mem _ h) dX6_would_66 wd_249 mV_21) ?_
  refine bb_lc (sd_callv hx hcs (fun w h => List.mem_cons_of_mem _ h) dX6_would_69 wd_250 mV_38) ?_
  refine bb_lc (sd_aload_n hx dX6_would_72 rfl) ?_
  refine bb_lc (sd_getR (k := 6) (sl := 6) hx dX6_would_73 rfl (fun w h => List.mem_cons_of_mem _ (wc_6 w h)) (by decide) (by decide) (List.mem_cons_of_mem _ wd_248) (fun _ h9 => h9) rfl (fun i _ => (by decide))) ?_
  refine bb_lc (sd_iload_n hx dX6_would_76 rfl) ?_
  refine bb_lc (sd_callv hx hcs (fun w h => List.mem_cons_of_mem _ h) dX6_would_77 wd_251 mV_37) ?_
  refine bb_lc (sd_iret hx dX6_would_80 hr hlk) ?_
  exact bb_ln
set_option maxRecDepth 20000 in
theorem sn_X6_sand {p : Program} {l : Launch} {e : Env} {R : Room} {s : State} {m : MethodId} {args : Array Value} {below : List Frame} {meth : Method} {c : Code} {D : va_G} {bs : Nat → Prop} {ad : Nat → Nat → Nat} {aI aC aS : ClassId} {Rp : bb_P} {C : bb_C} (hx : bb_Cx p s m args c D bs ad aI aC aS cX6_sand RX6 (bb_ws 15)) (hcs : bb_CS l R D bs ad aI aC aS C) (hr : meth.sig.returnType = some .int) (hlk : meth.locks = false) (hRf : 1 ≤ R.frames) (hRl : 36 ≤ R.locals) : ∀ pc, bb_Snd p l e R s m args below meth c D bs ad aI aC aS Rp C pc (cd_X6_sand pc) := by
  unfold cd_X6_sand
  refine bb_lkS (fun pc => sd_fail) ?_
  refine bb_lc (sd_iload_n hx dX6_sand_0 rfl) ?_
  refine bb_lc (sd_call hx hcs (fun w h => List.mem_cons_of_mem _ h) dX6_sand_1 wd_214 mS_18) ?_
  refine bb_lc (sd_ifeq hx dX6_sand_4 (by decide)) ?_
  refine bb_lc (sd_iload_n hx dX6_sand_7 rfl) ?_
  refine bb_lc (sd_call hx hcs (fun w h => List.mem_cons_of_mem _ h) dX6_sand_8 wd_214 mS_18) ?_
  refine bb_lc (sd_ifne hx dX6_sand_11 (by decide)) ?_
  refine bb_lc (sd_sipush hx dX6_sand_14 (by decide)) ?_
  refine bb_lc (sd_iret hx dX6_sand_17 hr hlk) ?_
  refine bb_lc (sd_iload_n hx dX6_sand_18 rfl) ?_
  refine bb_lc (sd_iload_n hx dX6_sand_19 rfl) ?_
  refine bb_lc (sd_icge hx dX6_sand_20 (by decide)) ?_
  refine bb_lc (sd_sipush hx dX6_sand_23 (by decide)) ?_
  refine bb_lc (sd_iret hx dX6_sand_26 hr hlk) ?_
  refine bb_lc (sd_aload_n hx dX6_sand_27 rfl) ?_
  refine bb_lc (sd_getR (k := 6) (sl := 0) hx dX6_sand_28 rfl (fun w h => List.mem_cons_of_mem _ (wc_6 w h)) (by decide) (by decide) (List.mem_cons_of_mem _ wd_215) (fun _ h9 => h9) rfl (fun i _ => (by decide))) ?_
  refine bb_lc (sd_getRN (host := "BeachBars") (ref := "BeachBars$State") (k := 4) (sl := 0) hx dX6_sand_31 rfl (fun w h => List.mem_cons_of_mem _ (wc_4 w h)) (by decide) (by decide) (by decide +kernel) (fun _ h9 => h9) rfl (fun i h => Nat.lt_of_lt_of_le h (by decide))) ?_
  refine bb_lc (sd_iload_n hx dX6_sand_34 rfl) ?_
  refine bb_lc (sd_iload_n hx dX6_sand_35 rfl) ?_
  refine bb_lc (sd_callv hx hcs (fun w h => List.mem_cons_of_mem _ h) dX6_sand_36 wd_252 mV_47) ?_
  refine bb_lc (sd_iret hx dX6_sand_39 hr hlk) ?_
  exact bb_ln
set_option maxRecDepth 20000 in
theorem sn_X6_count {p : Program} {l : Launch} {e : Env} {R : Room} {s : State} {m : MethodId} {args : Array Value} {below : List Frame} {meth : Method} {c : Code} {D : va_G} {bs : Nat → Prop} {ad : Nat → Nat → Nat} {aI aC aS : ClassId} {Rp : bb_P} {C : bb_C} (hx : bb_Cx p s m args c D bs ad aI aC aS cX6_count RX6 (bb_ws 16)) (hcs : bb_CS l R D bs ad aI aC aS C) (hr : meth.sig.returnType = some .int) (hlk : meth.locks = false) (hRf : 1 ≤ R.frames) (hRl : 36 ≤ R.locals) : ∀ pc, bb_Snd p l e R s m args below meth c D bs ad aI aC aS Rp C pc (cd_X6_count pc) := by
  unfold cd_X6_count
  refine bb_lkS (fun pc => sd_fail) ?_
  refine bb_lc (sd_iload_n hx dX6_count_0 rfl) ?_
  refine bb_lc (sd_iconst hx dX6_count_1 (by decide)) ?_
  refine bb_lc (sd_iclt hx dX6_count_2 (by decide)) ?_
  refine bb_lc (sd_iload_n hx dX6_count_5 rfl) ?_
  refine bb_lc (sd_bipush hx dX6_count_6 (by decide)) ?_
  refine bb_lc (sd_icge hx dX6_count_8 (by decide)) ?_
  refine bb_lc (sd_aload_n hx dX6_count_11 rfl) ?_
  refine bb_lc (sd_getR (k := 6) (sl := 0) hx dX6_count_12 rfl (fun w h => List.mem_cons_of_mem _ (wc_6 w h)) (by decide) (by decide) (List.mem_cons_of_mem _ wd_215) (fun _ h9 => h9) rfl (fun i _ => (by decide))) ?_
  refine bb_lc (sd_getRN (host := "BeachBars") (ref := "BeachBars$State") (k := 4) (sl := 3) hx dX6_count_15 rfl (fun w h => List.mem_cons_of_mem _ (wc_4 w h)) (by decide) (by decide) (by decide +kernel) (fun _ h9 => h9) rfl (fun i h => Nat.lt_of_lt_of_le h (by decide))) ?_
  refine bb_lc (sd_iload_n hx dX6_count_18 rfl) ?_
  refine bb_lc (sd_iald hx dX6_count_19) ?_
  refine bb_lc (sd_iret hx dX6_count_20 hr hlk) ?_
  refine bb_lc (sd_aload_n hx dX6_count_21 rfl) ?_
  refine bb_lc (sd_getR (k := 6) (sl := 0) hx dX6_count_22 rfl (fun w h => List.mem_cons_of_mem _ (wc_6 w h)) (by decide) (by decide) (List.mem_cons_of_mem _ wd_215) (fun _ h9 => h9) rfl (fun i _ => (by decide))) ?_
  refine bb_lc (sd_getRN (host := "BeachBars") (ref := "BeachBars$State") (k := 4) (sl := 0) hx dX6_count_25 rfl (fun w h => List.mem_cons_of_mem _ (wc_4 w h)) (by decide) (by decide) (by decide +kernel) (fun _ h9 => h9) rfl (fun i h => Nat.lt_of_lt_of_le h (by decide))) ?_
  refine bb_lc (sd_astore_n hx dX6_count_28 rfl) ?_
  refine bb_lc (sd_iload_n hx dX6_count_29 rfl) ?_
  refine bb_lc (sd_tsw hx dX6_count_30 (by decide) (by decide) (by decide)) ?_
  refine bb_lc (sd_aload_n hx dX6_count_124 rfl) ?_
  refine bb_lc (sd_callv hx hcs (fun w h => List.mem_cons_of_mem _ h) dX6_count_125 wd_253 mV_48) ?_
  refine bb_lc (sd_iret hx dX6_count_128 hr hlk) ?_
  refine bb_lc (sd_aload_n hx dX6_count_129 rfl) ?_
  refine bb_lc (sd_getR (k := 6) (sl := 0) hx dX6_count_130 rfl (fun w h => List.mem_cons_of_mem _ (wc_6 w h)) (by decide) (by decide) (List.mem_cons_of_mem _ wd_215) (fun _ h9 => h9) rfl (fun i _ => (by decide))) ?_
  refine bb_lc (sd_getRN (host := "BeachBars") (ref := "BeachBars$State") (k := 4) (sl := 1) hx dX6_count_133 rfl (fun w h => List.mem_cons_of_mem _ (wc_4 w h)) (by decide) (by decide) (by decide +kernel) (fun _ h9 => h9) rfl (fun i h => Nat.lt_of_lt_of_le h (by decide))) ?_
  refine bb_lc (sd_callv hx hcs (fun w h => List.mem_cons_of_mem _ h) dX6_count_136 wd_223 mV_30) ?_
  refine bb_lc (sd_iret hx dX6_count_139 hr hlk) ?_
  refine bb_lc (sd_aload_n hx dX6_count_140 rfl) ?_
  refine bb_lc (sd_getR (k := 6) (sl := 0) hx dX6_count_141 rfl (fun w h => List.mem_cons_of_mem _ (wc_6 w h)) (by decide) (by decide) (List.mem_cons_of_mem _ wd_215) (fun _ h9 => h9) rfl (fun i _ => (by decide))) ?_
  refine bb_lc (sd_getIN (host := "BeachBars") (ref := "BeachBars$State") (k := 4) (sl := 6) hx dX6_count_144 rfl (fun w h => List.mem_cons_of_mem _ (wc_4 w h)) (by decide) (by decide) (by decide +kernel) (fun _ h9 => h9) rfl) ?_
  refine bb_lc (sd_iret hx dX6_count_147 hr hlk) ?_
  refine bb_lc (sd_aload_n hx dX6_count_148 rfl) ?_
  refine bb_lc (sd_getR (k := 6) (sl := 0) hx dX6_count_149 rfl (fun w h => List.mem_cons_of_mem _ (wc_6 w h)) (by decide) (by decide) (List.mem_cons_of_mem _ wd_215) (fun _ h9 => h9) rfl (fun i _ => (by decide))) ?_
  refine bb_lc (sd_getRN (host := "BeachBars") (ref := "BeachBars$State") (k := 4) (sl := 2) hx dX6_count_152 rfl (fun w h => List.mem_cons_of_mem _ (wc_4 w h)) (by decide) (by decide) (by decide +kernel) (fun _ h9 => h9) rfl (fun i h => Nat.lt_of_lt_of_le h (by decide))) ?_
  refine bb_lc (sd_iconst hx dX6_count_155 (by decide)) ?_
  refine bb_lc (sd_iald hx dX6_count_156) ?_
  refine bb_lc (sd_iret hx dX6_count_157 hr hlk) ?_
  refine bb_lc (sd_aload_n hx dX6_count_158 rfl) ?_
  refine bb_lc (sd_getR (k := 6) (sl := 0) hx dX6_count_159 rfl (fun w h => List.mem_cons_of_mem _ (wc_6 w h)) (by decide) (by decide) (List.mem_cons_of_mem _ wd_215) (fun _ h9 => h9) rfl (fun i _ => (by decide))) ?_
  refine bb_lc (sd_getRN (host := "BeachBars") (ref := "BeachBars$State") (k := 4) (sl := 2) hx dX6_count_162 rfl (fun w h => List.mem_cons_of_mem _ (wc_4 w h)) (by decide) (by decide) (by decide +kernel) (fun _ h9 => h9) rfl (fun i h => Nat.lt_of_lt_of_le h (by decide))) ?_
  refine bb_lc (sd_iconst hx dX6_count_165 (by decide)) ?_
  refine bb_lc (sd_iald hx dX6_count_166) ?_
  refine bb_lc (sd_iret hx dX6_count_167 hr hlk) ?_
  refine bb_lc (sd_aload_n hx dX6_count_168 rfl) ?_
  refine bb_lc (sd_getR (k := 6) (sl := 0) hx dX6_count_169 rfl (fun w h => List.mem_cons_of_mem _ (wc_6 w h)) (by decide) (by decide) (List.mem_cons_of_mem _ wd_215) (fun _ h9 => h9) rfl (fun i _ => (by decide))) ?_
  refine bb_lc (sd_getRN (host := "BeachBars") (ref := "BeachBars$State") (k := 4) (sl := 2) hx dX6_count_172 rfl (fun w h => List.mem_cons_of_mem _ (wc_4 w h)) (by decide) (by decide) (by decide +kernel) (fun _ h9 => h9) rfl (fun i h => Nat.lt_of_lt_of_le h (by decide))) ?_
  refine bb_lc (sd_iconst hx dX6_count_175 (by decide)) ?_
  refine bb_lc (sd_iald hx dX6_count_176) ?_
  refine bb_lc (sd_iret hx dX6_count_177 hr hlk) ?_
  refine bb_lc (sd_aload_n hx dX6_count_178 rfl) ?_
  refine bb_lc (sd_getR (k := 6) (sl := 0) hx dX6_count_179 rfl (fun w h => List.mem_cons_of_mem _ (wc_6 w h)) (by decide) (by decide) (List.mem_cons_of_mem _ wd_215) (fun _ h9 => h9) rfl (fun i _ => (by decide))) ?_
  refine bb_lc (sd_getRN (host := "BeachBars") (ref := "BeachBars$State") (k := 4) (sl := 2) hx dX6_count_182 rfl (fun w h => List.mem_cons_of_mem _ (wc_4 w h)) (by decide) (by decide) (by decide +kernel) (fun _ h9 => h9) rfl (fun i h => Nat.lt_of_lt_of_le h (by decide))) ?_
  refine bb_lc (sd_iconst hx dX6_count_185 (by decide)) ?_
  refine bb_lc (sd_iald hx dX6_count_186) ?_
  refine bb_lc (sd_iret hx dX6_count_187 hr hlk) ?_
  refine bb_lc (sd_aload_n hx dX6_count_188 rfl) ?_
  refine bb_lc (sd_aload_n hx dX6_count_189 rfl) ?_
  refine bb_lc (sd_getR (k := 6) (sl := 0) hx dX6_count_190 rfl (fun w h => List.mem_cons_of_mem _ (wc_6 w h)) (by decide) (by decide) (List.mem_cons_of_mem _ wd_215) (fun _ h9 => h9) rfl (fun i _ => (by decide))) ?_
  refine bb_lc (sd_getIN (host := "BeachBars") (ref := "BeachBars$State") (k := 4) (sl := 6) hx dX6_count_193 rfl (fun w h => List.mem_cons_of_mem _ (wc_4 w h)) (by decide) (by decide) (by decide +kernel) (fun _ h9 => h9) rfl) ?_
  refine bb_lc (sd_callv hx hcs (fun w h => List.mem_cons_of_mem _ h) dX6_count_196 wd_254 mV_56) ?_
  refine bb_lc (sd_iret hx dX6_count_199 hr hlk) ?_
  refine bb_lc (sd_aload_n hx dX6_count_200 rfl) ?_
  refine bb_lc (sd_aload_n hx dX6_count_201 rfl) ?_
  refine bb_lc (sd_getR (k := 6) (sl := 0) hx dX6_count_202 rfl (fun w h => List.mem_cons_of_mem _ (wc_6 w h)) (by decide) (by decide) (List.mem_cons_of_mem _ wd_215) (fun _ h9 => h9) rfl (fun i _ => (by decide))) ?_
  refine bb_lc (sd_getIN (host := "BeachBars") (ref := "BeachBars$State") (k := 4) (sl := 6) hx dX6_count_205 rfl (fun w h => List.mem_cons_of_mem _ (wc_4 w h)) (by decide) (by decide) (by decide +kernel) (fun _ h9 => h9) rfl) ?_
  refine bb_lc (sd_aload_n hx dX6_count_208 rfl) ?_
  refine bb_lc (sd_getR (k := 6) (sl := 0) hx dX6_count_209 rfl (fun w h => List.mem_cons_of_mem _ (wc_6 w h)) (by decide) (by decide) (List.mem_cons_of_mem _ wd_215) (fun _ h9 => h9) rfl (fun i _ => (by decide))) ?_
  refine bb_lc (sd_getRN (host := "BeachBars") (ref := "BeachBars$State") (k := 4) (sl := 2) hx dX6_count_212 rfl (fun w h => List.mem_cons_of_mem _ (wc_4 w h)) (by decide) (by decide) (by decide +kernel) (fun _ h9 => h9) rfl (fun i h => Nat.lt_of_lt_of_le h (by decide))) ?_
  refine bb_lc (sd_iconst hx dX6_count_215 (by decide)) ?_
  refine bb_lc (sd_iald hx dX6_count_216) ?_
  refine bb_lc (sd_callv hx hcs (fun w h => List.mem_cons_of_mem _ h) dX6_count_217 wd_255 mV_57) ?_
  refine bb_lc (sd_iret hx dX6_count_220 hr hlk) ?_
  refine bb_lc (sd_aload_n hx dX6_count_221 rfl) ?_
  refine bb_lc (sd_aload_n hx dX6_count_222 rfl) ?_
  refine bb_lc (sd_getR (k := 6) (sl := 0) hx dX6_count_223 rfl (fun w h => List.mem_cons_of_mem _ (wc_6 w h)) (by decide) (by decide) (List.mem_cons_of_mem _ wd_215) (fun _ h9 => h9) rfl (fun i _ => (by decide))) ?_
  refine bb_lc (sd_getIN (host := "BeachBars") (ref := "BeachBars$State") (k := 4) (sl := 6) hx dX6_count_226 rfl (fun w h => List.mem_cons_of_mem _ (wc_4 w h)) (by decide) (by decide) (by decide +kernel) (fun _ h9 => h9) rfl) ?_
  refine bb_lc (sd_callv hx hcs (fun w h => List.mem_cons_of_mem _ h) dX6_count_229 wd_256 mV_58) ?_
  refine bb_lc (sd_iret hx dX6_count_232 hr hlk) ?_
  refine bb_lc (sd_aload_n hx dX6_count_233 rfl) ?_
  refine bb_lc (sd_getR (k := 6) (sl := 4) hx dX6_count_234 rfl (fun w h => List.mem_cons_of_mem _ (wc_6 w h)) (by decide) (by decide) (List.mem_cons_of_mem _ wd_217) (fun _ h9 => h9) rfl (fun i _ => (by decide))) ?_
  refine bb_lc (sd_callv hx hcs (fun w h => List.mem_cons_of_mem _ h) dX6_count_237 wd_232 mV_26) ?_
  refine bb_lc (sd_iret hx dX6_count_240 hr hlk) ?_
  refine bb_lc (sd_aload_n hx dX6_count_241 rfl) ?_
  refine bb_lc (sd_getR (k := 6) (sl := 5) hx dX6_count_242 rfl (fun w h => List.mem_cons_of_mem _ (wc_6 w h)) (by decide) (by decide) (List.mem_cons_of_mem _ wd_257) (fun _ h9 => h9) rfl (fun i _ => (by decide))) ?_
  refine bb_lc (sd_callv hx hcs (fun w h => List.mem_cons_of_mem _ h) dX6_count_245 wd_258 mV_69) ?_
  refine bb_lc (sd_iret hx dX6_count_248 hr hlk) ?_
  refine bb_lc (sd_sipush hx dX6_count_249 (by decide)) ?_
  refine bb_lc (sd_iret hx dX6_count_252 hr hlk) ?_
  exact bb_ln
set_option maxRecDepth 20000 in
theorem sn_X6_isRow {p : Program} {l : Launch} {e : Env} {R : Room} {s : State} {m : MethodId} {args : Array Value} {below : List Frame} {meth : Method} {c : Code} {D : va_G} {bs : Nat → Prop} {ad : Nat → Nat → Nat} {aI aC aS : ClassId} {Rp : bb_P} {C : bb_C} (hx : bb_Cx p s m args c D bs ad aI aC aS cX6_isRow RX6 (bb_ws 17)) (hcs : bb_CS l R D bs ad aI aC aS C) (hr : meth.sig.returnType = some .boolean) (hlk : meth.locks = false) (hRf : 1 ≤ R.frames) (hRl : 36 ≤ R.locals) : ∀ pc, bb_Snd p l e R s m args below meth c D bs ad aI aC aS Rp C pc (cd_X6_isRow pc) := by
  unfold cd_X6_isRow
  refine bb_lkS (fun pc => sd_fail) ?_
  refine bb_lc (sd_iload_n hx dX6_isRow_0 rfl) ?_
  refine bb_lc (sd_iflt hx dX6_isRow_1 (by decide)) ?_
  refine bb_lc (sd_iload_n hx dX6_isRow_4 rfl) ?_
  refine bb_lc (sd_iconst hx dX6_isRow_5 (by decide)) ?_
  refine bb_lc (sd_icge hx dX6_isRow_6 (by decide)) ?_
  refine bb_lc (sd_iconst hx dX6_isRow_9 (by decide)) ?_
  refine bb_lc (sd_goto hx dX6_isRow_10 (by decide)) ?_
  refine bb_lc (sd_iconst hx dX6_isRow_13 (by decide)) ?_
  refine bb_lc (sd_zret hx dX6_isRow_14 hr hlk) ?_
  exact bb_ln
set_option maxRecDepth 20000 in
theorem sn_X6_isCell {p : Program} {l : Launch} {e : Env} {R : Room} {s : State} {m : MethodId} {args : Array Value} {below : List Frame} {meth : Method} {c : Code} {D : va_G} {bs : Nat → Prop} {ad : Nat → Nat → Nat} {aI aC aS : ClassId} {Rp : bb_P} {C : bb_C} (hx : bb_Cx p s m args c D bs ad aI aC aS cX6_isCell RX6 (bb_ws 18)) (hcs : bb_CS l R D bs ad aI aC aS C) (hr : meth.sig.returnType = some .boolean) (hlk : meth.locks = false) (hRf : 1 ≤ R.frames) (hRl : 36 ≤ R.locals) : ∀ pc, bb_Snd p l e R s m args below meth c D bs ad aI aC aS Rp C pc (cd_X6_isCell pc) := by
  unfold cd_X6_isCell
  refine bb_lkS (fun pc => sd_fail) ?_
  refine bb_lc (sd_iload_n hx dX6_isCell_0 rfl) ?_
  refine bb_lc (sd_iflt hx dX6_isCell_1 (by decide)) ?_
  refine bb_lc (sd_iload_n hx dX6_isCell_4 rfl) ?_
  refine bb_lc (sd_bipush hx dX6_isCell_5 (by decide)) ?_
  refine bb_lc (sd_icge hx dX6_isCell_7 (by decide)) ?_
  refine bb_lc (sd_iconst hx dX6_isCell_10 (by decide)) ?_
  refine bb_lc (sd_goto hx dX6_isCell_11 (by decide)) ?_
  refine bb_lc (sd_iconst hx dX6_isCell_14 (by decide)) ?_
  refine bb_lc (sd_zret hx dX6_isCell_15 hr hlk) ?_
  exact bb_ln
set_option maxRecDepth 20000 in
theorem sn_X6_isWaveHeight {p : Program} {l : Launch} {e : Env} {R : Room} {s : State} {m : MethodId} {args : Array Value} {below : List Frame} {meth : Method} {c : Code} {D : va_G} {bs : Nat → Prop} {ad : Nat → Nat → Nat} {aI aC aS : ClassId} {Rp : bb_P} {C : bb_C} (hx : bb_Cx p s m args c D bs ad aI aC aS cX6_isWaveHeight RX6 (bb_ws 19)) (hcs : bb_CS l R D bs ad aI aC aS C) (hr : meth.sig.returnType = some .boolean) (hlk : meth.locks = false) (hRf : 1 ≤ R.frames) (hRl : 36 ≤ R.locals) : ∀ pc, bb_Snd p l e R s m args below meth c D bs ad aI aC aS Rp C pc (cd_X6_isWaveHeight pc) := by
  unfold cd_X6_isWaveHeight
  refine bb_lkS (fun pc => sd_fail) ?_
  refine bb_lc (sd_iload_n hx dX6_isWaveHeight_0 rfl) ?_
  refine bb_lc (sd_iconst hx dX6_isWaveHeight_1 (by decide)) ?_
  refine bb_lc (sd_iclt hx dX6_isWaveHeight_2 (by decide)) ?_
  refine bb_lc (sd_iload_n hx dX6_isWaveHeight_5 rfl) ?_
  refine bb_lc (sd_bipush hx dX6_isWaveHeight_6 (by decide)) ?_
  refine bb_lc (sd_icgt hx dX6_isWaveHeight_8 (by decide)) ?_
  refine bb_lc (sd_iconst hx dX6_isWaveHeight_11 (by decide)) ?_
  refine bb_lc (sd_goto hx dX6_isWaveHeight_12 (by decide)) ?_
  refine bb_lc (sd_iconst hx dX6_isWaveHeight_15 (by decide)) ?_
  refine bb_lc (sd_zret hx dX6_isWaveHeight_16 hr hlk) ?_
  exact bb_ln
set_option maxRecDepth 20000 in
theorem sn_X6_firstHeight {p : Program} {l : Launch} {e : Env} {R : Room} {s : State} {m : MethodId} {args : Array Value} {below : List Frame} {meth : Method} {c : Code} {D : va_G} {bs : Nat → Prop} {ad : Nat → Nat → Nat} {aI aC aS : ClassId} {Rp : bb_P} {C : bb_C} (hx : bb_Cx p s m args c D bs ad aI aC aS cX6_firstHeight RX6 (bb_ws 20)) (hcs : bb_CS l R D bs ad aI aC aS C) (hr : meth.sig.returnType = some .int) (hlk : meth.locks = false) (hRf : 1 ≤ R.frames) (hRl : 36 ≤ R.locals) : ∀ pc, bb_Snd p l e R s m args below meth c D bs ad aI aC aS Rp C pc (cd_X6_firstHeight pc) := by
  unfold cd_X6_firstHeight
  refine bb_lkS (fun pc => sd_fail) ?_
  refine bb_lc (sd_bipush hx dX6_firstHeight_0 (by decide)) ?_
  refine bb_lc (sd_iconst hx dX6_firstHeight_2 (by decide)) ?_
  refine bb_lc (sd_iload_n hx dX6_firstHeight_3 rfl) ?_
  refine bb_lc (sd_imul hx dX6_firstHeight_4) ?_
  refine bb_lc (sd_isub hx dX6_firstHeight_5) ?_
  refine bb_lc (sd_iret hx dX6_firstHeight_6 hr hlk) ?_
  exact bb_ln
set_option maxRecDepth 20000 in
theorem sn_X6_goesSeaward {p : Program} {l : Launch} {e : Env} {R : Room} {s : State} {m : MethodId} {args : Array Value} {below : List Frame} {meth : Method} {c : Code} {D : va_G} {bs : Nat → Prop} {ad : Nat → Nat → Nat} {aI aC aS : ClassId} {Rp : bb_P} {C : bb_C} (hx : bb_Cx p s m args c D bs ad aI aC aS cX6_goesSeaward RX6 (bb_ws 21)) (hcs : bb_CS l R D bs ad aI aC aS C) (hr : meth.sig.returnType = some .boolean) (hlk : meth.locks = false) (hRf : 1 ≤ R.frames) (hRl : 36 ≤ R.locals) : ∀ pc, bb_Snd p l e R s m args below meth c D bs ad aI aC aS Rp C pc (cd_X6_goesSeaward pc) := by
  unfold cd_X6_goesSeaward
  refine bb_lkS (fun pc => sd_fail) ?_
  refine bb_lc (sd_iload_n hx dX6_goesSeaward_0 rfl) ?_
  refine bb_lc (sd_aload_n hx dX6_goesSeaward_1 rfl) ?_
  refine bb_lc (sd_getR (k := 6) (sl := 0) hx dX6_goesSeaward_2 rfl (fun w h => List.mem_cons_of_mem _ (wc_6 w h)) (by decide) (by decide) (List.mem_cons_of_mem _ wd_215) (fun _ h9 => h9) rfl (fun i _ => (by decide))) ?_
  refine bb_lc (sd_getRN (host := "BeachBars") (ref := "BeachBars$State") (k := 4) (sl := 2) hx dX6_goesSeaward_5 rfl (fun w h => List.mem_cons_of_mem _ (wc_4 w h)) (by decide) (by decide) (by decide +kernel) (fun _ h9 => h9) rfl (fun i h => Nat.lt_of_lt_of_le h (by decide))) ?_
  refine bb_lc (sd_iconst hx dX6_goesSeaward_8 (by decide)) ?_
  refine bb_lc (sd_iald hx dX6_goesSeaward_9) ?_
  refine bb_lc (sd_iclt hx dX6_goesSeaward_10 (by decide)) ?_
  refine bb_lc (sd_iconst hx dX6_goesSeaward_13 (by decide)) ?_
  refine bb_lc (sd_goto hx dX6_goesSeaward_14 (by decide)) ?_
  refine bb_lc (sd_iconst hx dX6_goesSeaward_17 (by decide)) ?_
  refine bb_lc (sd_zret hx dX6_goesSeaward_18 hr hlk) ?_
  exact bb_ln
set_option maxRecDepth 20000 in
theorem sn_X6_runWaves {p : Program} {l : Launch} {e : Env} {R : Room} {s : State} {m : MethodId} {args : Array Value} {below : List Frame} {meth : Method} {c : Code} {D : va_G} {bs : Nat → Prop} {ad : Nat → Nat → Nat} {aI aC aS : ClassId} {Rp : bb_P} {C : bb_C} (hx : bb_Cx p s m args c D bs ad aI aC aS cX6_runWaves RX6 (bb_ws 22)) (hcs : bb_CS l R D bs ad aI aC aS C) (hr : meth.sig.returnType = some .int) (hlk : meth.locks = false) (hRf : 1 ≤ R.frames) (hRl : 36 ≤ R.locals) : ∀ pc, bb_Snd p l e R s m args below meth c D bs ad aI aC aS Rp C pc (cd_X6_runWaves pc) := by
  unfold cd_X6_runWaves
  refine bb_lkS (fun pc => sd_fail) ?_
  refine bb_lc (sd_aload_n hx dX6_runWaves_0 rfl) ?_
  refine bb_lc (sd_callv hx hcs (fun w h => List.mem_cons_of_mem _ h) dX6_runWaves_1 wd_259 mV_23) ?_
  refine bb_lc (sd_iconst hx dX6_runWaves_4 (by decide)) ?_
  refine bb_lc (sd_istore_n hx dX6_runWaves_5 rfl) ?_
  refine bb_lc (sd_aload_n hx dX6_runWaves_6 rfl) ?_
  refine bb_lc (sd_getR (k := 6) (sl := 0) hx dX6_runWaves_7 rfl (fun w h => List.mem_cons_of_mem _ (wc_6 w h)) (by decide) (by decide) (List.mem_cons_of_mem _ wd_215) (fun _ h9 => h9) rfl (fun i _ => (by decide))) ?_
  refine bb_lc (sd_getRN (host := "BeachBars") (ref := "BeachBars$State") (k := 4) (sl := 1) hx dX6_runWaves_10 rfl (fun w h => List.mem_cons_of_mem _ (wc_4 w h)) (by decide) (by decide) (by decide +kernel) (fun _ h9 => h9) rfl (fun i h => Nat.lt_of_lt_of_le h (by decide))) ?_
  refine bb_lc (sd_callv hx hcs (fun w h => List.mem_cons_of_mem _ h) dX6_runWaves_13 wd_223 mV_30) ?_
  refine bb_lc (sd_istore_n hx dX6_runWaves_16 rfl) ?_
  refine bb_lc (sd_iconst hx dX6_runWaves_17 (by decide)) ?_
  refine bb_lc (sd_istore hx dX6_runWaves_18) ?_
  refine bb_lc (sd_iload hx dX6_runWaves_20) ?_
  refine bb_lc (sd_iload_n hx dX6_runWaves_22 rfl) ?_
  refine bb_lc (sd_icge hx dX6_runWaves_23 (by decide)) ?_
  refine bb_lc (sd_aload_n hx dX6_runWaves_26 rfl) ?_
  refine bb_lc (sd_getR (k := 6) (sl := 8) hx dX6_runWaves_27 rfl (fun w h => List.mem_cons_of_mem _ (wc_6 w h)) (by decide) (by decide) (List.mem_cons_of_mem _ wd_260) (fun _ h9 => h9) rfl (fun i _ => (by decide))) ?_
  refine bb_lc (sd_iload hx dX6_runWaves_30) ?_
  refine bb_lc (sd_iald hx dX6_runWaves_32) ?_
  refine bb_lc (sd_istore hx dX6_runWaves_33) ?_
  refine bb_lc (sd_aload_n hx dX6_runWaves_35 rfl) ?_
  refine bb_lc (sd_getR (k := 6) (sl := 0) hx dX6_runWaves_36 rfl (fun w h => List.mem_cons_of_mem _ (wc_6 w h)) (by decide) (by decide) (List.mem_cons_of_mem _ wd_215) (fun _ h9 => h9) rfl (fun i _ => (by decide))) ?_
  refine bb_lc (sd_getRN (host := "BeachBars") (ref := "BeachBars$State") (k := 4) (sl := 1) hx dX6_runWaves_39 rfl (fun w h => List.mem_cons_of_mem _ (wc_4 w h)) (by decide) (by decide) (by decide +kernel) (fun _ h9 => h9) rfl (fun i h => Nat.lt_of_lt_of_le h (by decide))) ?_
  refine bb_lc (sd_iload hx dX6_runWaves_42) ?_
  refine bb_lc (sd_callv hx hcs (fun w h => List.mem_cons_of_mem _ h) dX6_runWaves_44 wd_244 mV_32) ?_
  refine bb_lc (sd_istore hx dX6_runWaves_47) ?_
  refine bb_lc (sd_aload_n hx dX6_runWaves_49 rfl) ?_
  refine bb_lc (sd_getR (k := 6) (sl := 6) hx dX6_runWaves_50 rfl (fun w h => List.mem_cons_of_mem _ (wc_6 w h)) (by decide) (by decide) (List.mem_cons_of_mem _ wd_248) (fun _ h9 => h9) rfl (fun i _ => (by decide))) ?_
  refine bb_lc (sd_aload_n hx dX6_runWaves_53 rfl) ?_
  refine bb_lc (sd_getR (k := 6) (sl := 0) hx dX6_runWaves_54 rfl (fun w h => List.mem_cons_of_mem _ (wc_6 w h)) (by decide) (by decide) (List.mem_cons_of_mem _ wd_215) (fun _ h9 => h9) rfl (fun i _ => (by decide))) ?_
  refine bb_lc (sd_getRN (host := "BeachBars") (ref := "BeachBars$State") (k := 4) (sl := 0) hx dX6_runWaves_57 rfl (fun w h => List.mem_cons_of_mem _ (wc_4 w h)) (by decide) (by decide) (by decide +kernel) (fun _ h9 => h9) rfl (fun i h => Nat.lt_of_lt_of_le h (by decide))) ?_
  refine bb_lc (sd_aload_n hx dX6_runWaves_60 rfl) ?_
  refine bb_lc (sd_getR (k := 6) (sl := 0) hx dX6_runWaves_61 rfl (fun w h => List.mem_cons_of_mem _ (wc_6 w h)) (by decide) (by decide) (List.mem_cons_of_mem _ wd_215) (fun _ h9 => h9) rfl (fun i _ => (by decide))) ?_
  refine bb_lc (sd_getRN (host := "BeachBars") (ref := "BeachBars$State") (k := 4) (sl := 1) hx dX6_runWaves_64 rfl (fun w h => List.mem_cons_of_mem _ (wc_4 w h)) (by decide) (by decide) (by decide +kernel) (fun _ h9 => h9) rfl (fun i h => Nat.lt_of_lt_of_le h (by decide))) ?_
  refine bb_lc (sd_iload hx dX6_runWaves_67) ?_
  refine bb_lc (sd_callv hx hcs (fun w h => List.mem_cons_of_mem _ h) dX6_runWaves_69 wd_245 mV_31) ?_
  refine bb_lc (sd_iload hx dX6_runWaves_72) ?_
  refine bb_lc (sd_iload_n hx dX6_runWaves_74 rfl) ?_
  refine bb_lc (sd_aload_n hx dX6_runWaves_75 rfl) ?_
  refine bb_lc (sd_iload hx dX6_runWaves_76) ?_
  refine bb_lc (sd_callv hx hcs (fun w h => List.mem_cons_of_mem _ h) dX6_runWaves_78 wd_249 mV_21) ?_
  refine bb_lc (sd_callv hx hcs (fun w h => List.mem_cons_of_mem _ h) dX6_runWaves_81 wd_250 mV_38) ?_
  refine bb_lc (sd_aload_n hx dX6_runWaves_84 rfl) ?_
  refine bb_lc (sd_getR (k := 6) (sl := 0) hx dX6_runWaves_85 rfl (fun w h => List.mem_cons_of_mem _ (wc_6 w h)) (by decide) (by decide) (List.mem_cons_of_mem _ wd_215) (fun _ h9 => h9) rfl (fun i _ => (by decide))) ?_
  refine bb_lc (sd_aload_n hx dX6_runWaves_88 rfl) ?_
  refine bb_lc (sd_getR (k := 6) (sl := 6) hx dX6_runWaves_89 rfl (fun w h => List.mem_cons_of_mem _ (wc_6 w h)) (by decide) (by decide) (List.mem_cons_of_mem _ wd_248) (fun _ h9 => h9) rfl (fun i _ => (by decide))) ?_
  refine bb_lc (sd_iload hx dX6_runWaves_92) ?_
  refine bb_lc (sd_callv hx hcs (fun w h => List.mem_cons_of_mem _ h) dX6_runWaves_94 wd_261 mV_68) ?_
  refine bb_lc (sd_iload_n hx dX6_runWaves_97 rfl) ?_
  refine bb_lc (sd_aload_n hx dX6_runWaves_98 rfl) ?_
  refine bb_lc (sd_getR (k := 6) (sl := 6) hx dX6_runWaves_99 rfl (fun w h => List.mem_cons_of_mem _ (wc_6 w h)) (by decide) (by decide) (List.mem_cons_of_mem _ wd_248) (fun _ h9 => h9) rfl (fun i _ => (by decide))) ?_
  refine bb_lc (sd_iconst hx dX6_runWaves_102 (by decide)) ?_
  refine bb_lc (sd_callv hx hcs (fun w h => List.mem_cons_of_mem _ h) dX6_runWaves_103 wd_251 mV_37) ?_
  refine bb_lc (sd_iadd hx dX6_runWaves_106) ?_
  refine bb_lc (sd_istore_n hx dX6_runWaves_107 rfl) ?_
  refine bb_lc (sd_iinc hx dX6_runWaves_108 (by decide)) ?_
  refine bb_lc (sd_goto hx dX6_runWaves_111 (by decide)) ?_
  refine bb_lc (sd_aload_n hx dX6_runWaves_114 rfl) ?_
  refine bb_lc (sd_getR (k := 6) (sl := 0) hx dX6_runWaves_115 rfl (fun w h => List.mem_cons_of_mem _ (wc_6 w h)) (by decide) (by decide) (List.mem_cons_of_mem _ wd_215) (fun _ h9 => h9) rfl (fun i _ => (by decide))) ?_
  refine bb_lc (sd_iload_n hx dX6_runWaves_118 rfl) ?_
  refine bb_lc (sd_putIN (host := "BeachBars") (ref := "BeachBars$State") (k := 4) (sl := 5) hx dX6_runWaves_119 rfl (fun w h => List.mem_cons_of_mem _ (wc_4 w h)) (by decide) (by decide) (by decide +kernel) (fun _ h9 => h9) rfl (ty0 := tyX4) tyX4_ok nmX4 rfl (by decide +kernel)) ?_
  refine bb_lc (sd_iload_n hx dX6_runWaves_122 rfl) ?_
  refine bb_lc (sd_iret hx dX6_runWaves_123 hr hlk) ?_
  exact bb_ln
set_option maxRecDepth 20000 in
theorem sn_X6_sortWaves {p : Program} {l : Launch} {e : Env} {R : Room} {s : State} {m : MethodId} {args : Array Value} {below : List Frame} {meth : Method} {c : Code} {D : va_G} {bs : Nat → Prop} {ad : Nat → Nat → Nat} {aI aC aS : ClassId} {Rp : bb_P} {C : bb_C} (hx : bb_Cx p s m args c D bs ad aI aC aS cX6_sortWaves RX6 (bb_ws 23)) (hcs : bb_CS l R D bs ad aI aC aS C) (hr : meth.sig.returnType = none) (hlk : meth.locks = false) (hRf : 1 ≤ R.frames) (hRl : 36 ≤ R.locals) : ∀ pc, bb_Snd p l e R s m args below meth c D bs ad aI aC aS Rp C pc (cd_X6_sortWaves pc) := by
  unfold cd_X6_sortWaves
  refine bb_lkS (fun pc => sd_fail) ?_
  refine bb_lc (sd_aload_n hx dX6_sortWaves_0 rfl) ?_
  refine bb_lc (sd_getR (k := 6) (sl := 0) hx dX6_sortWaves_1 rfl (fun w h => List.mem_cons_of_mem _ (wc_6 w h)) (by decide) (by decide) (List.mem_cons_of_mem _ wd_215) (fun _ h9 => h9) rfl (fun i _ => (by decide))) ?_
  refine bb_lc (sd_getRN (host := "BeachBars") (ref := "BeachBars$State") (k := 4) (sl := 1) hx dX6_sortWaves_4 rfl (fun w h => List.mem_cons_of_mem _ (wc_4 w h)) (by decide) (by decide) (by decide +kernel) (fun _ h9 => h9) rfl (fun i h => Nat.lt_of_lt_of_le h (by decide))) ?_
  refine bb_lc (sd_callv hx hcs (fun w h => List.mem_cons_of_mem _ h) dX6_sortWaves_7 wd_223 mV_30) ?_
  refine bb_lc (sd_istore_n hx dX6_sortWaves_10 rfl) ?_
  refine bb_lc (sd_iconst hx dX6_sortWaves_11 (by decide)) ?_
  refine bb_lc (sd_istore_n hx dX6_sortWaves_12 rfl) ?_
  refine bb_lc (sd_iload_n hx dX6_sortWaves_13 rfl) ?_
  refine bb_lc (sd_iload_n hx dX6_sortWaves_14 rfl) ?_
  refine bb_lc (sd_icge hx dX6_sortWaves_15 (by decide)) ?_
  refine bb_lc (sd_iload_n hx dX6_sortWaves_18 rfl) ?_
  refine bb_lc (sd_istore_n hx dX6_sortWaves_19 rfl) ?_
  refine bb_lc (sd_iload_n hx dX6_sortWaves_20 rfl) ?_
  refine bb_lc (sd_ifle hx dX6_sortWaves_21 (by decide)) ?_
  refine bb_lc (sd_aload_n hx dX6_sortWaves_24 rfl) ?_
  refine bb_lc (sd_iload_n hx dX6_sortWaves_25 rfl) ?_
  refine bb_lc (sd_aload_n hx dX6_sortWaves_26 rfl) ?_
  refine bb_lc (sd_getR (k := 6) (sl := 8) hx dX6_sortWaves_27 rfl (fun w h => List.mem_cons_of_mem _ (wc_6 w h)) (by decide) (by decide) (List.mem_cons_of_mem _ wd_260) (fun _ h9 => h9) rfl (fun i _ => (by decide))) ?_
  refine bb_lc (sd_iload_n hx dX6_sortWaves_30 rfl) ?_
  refine bb_lc (sd_iconst hx dX6_sortWaves_31 (by decide)) ?_
  refine bb_lc (sd_isub hx dX6_sortWaves_32) ?_
  refine bb_lc (sd_iald hx dX6_sortWaves_33) ?_
  refine bb_lc (sd_callv hx hcs (fun w h => List.mem_cons_of_mem _ h) dX6_sortWaves_34 wd_262 mV_24) ?_
  refine bb_lc (sd_ifeq hx dX6_sortWaves_37 (by decide)) ?_
  refine bb_lc (sd_aload_n hx dX6_sortWaves_40 rfl) ?_
  refine bb_lc (sd_getR (k := 6) (sl := 8) hx dX6_sortWaves_41 rfl (fun w h => List.mem_cons_of_mem _ (wc_6 w h)) (by decide) (by decide) (List.mem_cons_of_mem _ wd_260) (fun _ h9 => h9) rfl (fun i _ => (by decide))) ?_
  refine bb_lc (sd_iload_n hx dX6_sortWaves_44 rfl) ?_
  refine bb_lc (sd_aload_n hx dX6_sortWaves_45 rfl) ?_
  refine bb_lc (sd_getR (k := 6) (sl := 8) hx dX6_sortWaves_46 rfl (fun w h => List.mem_cons_of_mem _ (wc_6 w h)) (by decide) (by decide) (List.mem_cons_of_mem _ wd_260) (fun _ h9 => h9) rfl (fun i _ => (by decide))) ?_
  refine bb_lc (sd_iload_n hx dX6_sortWaves_49 rfl) ?_
  refine bb_lc (sd_iconst hx dX6_sortWaves_50 (by decide)) ?_
  refine bb_lc (sd_isub hx dX6_sortWaves_51) ?_
  refine bb_lc (sd_iald hx dX6_sortWaves_52) ?_
  refine bb_lc (sd_iast hx dX6_sortWaves_53) ?_
  refine bb_lc (sd_iinc hx dX6_sortWaves_54 (by decide)) ?_
  refine bb_lc (sd_goto hx dX6_sortWaves_57 (by decide)) ?_
  refine bb_lc (sd_aload_n hx dX6_sortWaves_60 rfl) ?_
  refine bb_lc (sd_getR (k := 6) (sl := 8) hx dX6_sortWaves_61 rfl (fun w h => List.mem_cons_of_mem _ (wc_6 w h)) (by decide) (by decide) (List.mem_cons_of_mem _ wd_260) (fun _ h9 => h9) rfl (fun i _ => (by decide))) ?_
  refine bb_lc (sd_iload_n hx dX6_sortWaves_64 rfl) ?_
  refine bb_lc (sd_iload_n hx dX6_sortWaves_65 rfl) ?_
  refine bb_lc (sd_iast hx dX6_sortWaves_66) ?_
  refine bb_lc (sd_iinc hx dX6_sortWaves_67 (by decide)) ?_
  refine bb_lc (sd_goto hx dX6_sortWaves_70 (by decide)) ?_
  refine bb_lc (sd_ret hx dX6_sortWaves_73 hr hlk) ?_
  exact bb_ln
set_option maxRecDepth 20000 in
theorem sn_X6_runsEarlier {p : Program} {l : Launch} {e : Env} {R : Room} {s : State} {m : MethodId} {args : Array Value} {below : List Frame} {meth : Method} {c : Code} {D : va_G} {bs : Nat → Prop} {ad : Nat → Nat → Nat} {aI aC aS : ClassId} {Rp : bb_P} {C : bb_C} (hx : bb_Cx p s m args c D bs ad aI aC aS cX6_runsEarlier RX6 (bb_ws 24)) (hcs : bb_CS l R D bs ad aI aC aS C) (hr : meth.sig.returnType = some .boolean) (hlk : meth.locks = false) (hRf : 1 ≤ R.frames) (hRl : 36 ≤ R.locals) : ∀ pc, bb_Snd p l e R s m args below meth c D bs ad aI aC aS Rp C pc (cd_X6_runsEarlier pc) := by
  unfold cd_X6_runsEarlier
  refine bb_lkS (fun pc => sd_fail) ?_
  refine bb_lc (sd_aload_n hx dX6_runsEarlier_0 rfl) ?_
  refine bb_lc (sd_getR (k := 6) (sl := 0) hx dX6_runsEarlier_1 rfl (fun w h => List.mem_cons_of_mem _ (wc_6 w h)) (by decide) (by decide) (List.mem_cons_of_mem _ wd_215) (fun _ h9 => h9) rfl (fun i _ => (by decide))) ?_
  refine bb_lc (sd_getRN (host := "BeachBars") (ref := "BeachBars$State") (k := 4) (sl := 1) hx dX6_runsEarlier_4 rfl (fun w h => List.mem_cons_of_mem _ (wc_4 w h)) (by decide) (by decide) (by decide +kernel) (fun _ h9 => h9) rfl (fun i h => Nat.lt_of_lt_of_le h (by decide))) ?_
  refine bb_lc (sd_iload_n hx dX6_runsEarlier_7 rfl) ?_
  refine bb_lc (sd_callv hx hcs (fun w h => List.mem_cons_of_mem _ h) dX6_runsEarlier_8 wd_244 mV_32) ?_
  refine bb_lc (sd_istore_n hx dX6_runsEarlier_11 rfl) ?_
  refine bb_lc (sd_aload_n hx dX6_runsEarlier_12 rfl) ?_
  refine bb_lc (sd_getR (k := 6) (sl := 0) hx dX6_runsEarlier_13 rfl (fun w h => List.mem_cons_of_mem _ (wc_6 w h)) (by decide) (by decide) (List.mem_cons_of_mem _ wd_215) (fun _ h9 => h9) rfl (fun i _ => (by decide))) ?_
  refine bb_lc (sd_getRN (host := "BeachBars") (ref := "BeachBars$State") (k := 4) (sl := 1) hx dX6_runsEarlier_16 rfl (fun w h => List.mem_cons_of_mem _ (wc_4 w h)) (by decide) (by decide) (by decide +kernel) (fun _ h9 => h9) rfl (fun i h => Nat.lt_of_lt_of_le h (by decide))) ?_
  refine bb_lc (sd_iload_n hx dX6_runsEarlier_19 rfl) ?_
  refine bb_lc (sd_callv hx hcs (fun w h => List.mem_cons_of_mem _ h) dX6_runsEarlier_20 wd_244 mV_32) ?_
  refine bb_lc (sd_istore hx dX6_runsEarlier_23) ?_
  refine bb_lc (sd_aload_n hx dX6_runsEarlier_25 rfl) ?_
  refine bb_lc (sd_getR (k := 6) (sl := 0) hx dX6_runsEarlier_26 rfl (fun w h => List.mem_cons_of_mem _ (wc_6 w h)) (by decide) (by decide) (List.mem_cons_of_mem _ wd_215) (fun _ h9 => h9) rfl (fun i _ => (by decide))) ?_
  refine bb_lc (sd_getRN (host := "BeachBars") (ref := "BeachBars$State") (k := 4) (sl := 2) hx dX6_runsEarlier_29 rfl (fun w h => List.mem_cons_of_mem _ (wc_4 w h)) (by decide) (by decide) (by decide +kernel) (fun _ h9 => h9) rfl (fun i h => Nat.lt_of_lt_of_le h (by decide))) ?_
  refine bb_lc (sd_iconst hx dX6_runsEarlier_32 (by decide)) ?_
  refine bb_lc (sd_iald hx dX6_runsEarlier_33) ?_
  refine bb_lc (sd_lsw hx dX6_runsEarlier_34 (by decide) (by decide) (by decide) (by decide) (by decide) (by decide)) ?_
  refine bb_lc (sd_iload_n hx dX6_runsEarlier_60 rfl) ?_
  refine bb_lc (sd_iload hx dX6_runsEarlier_61) ?_
  refine bb_lc (sd_icle hx dX6_runsEarlier_63 (by decide)) ?_
  refine bb_lc (sd_iconst hx dX6_runsEarlier_66 (by decide)) ?_
  refine bb_lc (sd_goto hx dX6_runsEarlier_67 (by decide)) ?_
  refine bb_lc (sd_iconst hx dX6_runsEarlier_70 (by decide)) ?_
  refine bb_lc (sd_zret hx dX6_runsEarlier_71 hr hlk) ?_
  refine bb_lc (sd_iload_n hx dX6_runsEarlier_72 rfl) ?_
  refine bb_lc (sd_iload hx dX6_runsEarlier_73) ?_
  refine bb_lc (sd_icge hx dX6_runsEarlier_75 (by decide)) ?_
  refine bb_lc (sd_iconst hx dX6_runsEarlier_78 (by decide)) ?_
  refine bb_lc (sd_goto hx dX6_runsEarlier_79 (by decide)) ?_
  refine bb_lc (sd_iconst hx dX6_runsEarlier_82 (by decide)) ?_
  refine bb_lc (sd_zret hx dX6_runsEarlier_83 hr hlk) ?_
  refine bb_lc (sd_iconst hx dX6_runsEarlier_84 (by decide)) ?_
  refine bb_lc (sd_zret hx dX6_runsEarlier_85 hr hlk) ?_
  exact bb_ln
set_option maxRecDepth 20000 in
theorem sn_X6_letSandFollow {p : Program} {l : Launch} {e : Env} {R : Room} {s : State} {m : MethodId} {args : Array Value} {below : List Frame} {meth : Method} {c : Code} {D : va_G} {bs : Nat → Prop} {ad : Nat → Nat → Nat} {aI aC aS : ClassId} {Rp : bb_P} {C : bb_C} (hx : bb_Cx p s m args c D bs ad aI aC aS cX6_letSandFollow RX6 (bb_ws 25)) (hcs : bb_CS l R D bs ad aI aC aS C) (hr : meth.sig.returnType = some .int) (hlk : meth.locks = false) (hRf : 1 ≤ R.frames) (hRl : 36 ≤ R.locals) : ∀ pc, bb_Snd p l e R s m args below meth c D bs ad aI aC aS Rp C pc (cd_X6_letSandFollow pc) := by
  unfold cd_X6_letSandFollow
  refine bb_lkS (fun pc => sd_fail) ?_
  refine bb_lc (sd_aload_n hx dX6_letSandFollow_0 rfl) ?_
  refine bb_lc (sd_getR (k := 6) (sl := 0) hx dX6_letSandFollow_1 rfl (fun w h => List.mem_cons_of_mem _ (wc_6 w h)) (by decide) (by decide) (List.mem_cons_of_mem _ wd_215) (fun _ h9 => h9) rfl (fun i _ => (by decide))) ?_
  refine bb_lc (sd_getRN (host := "BeachBars") (ref := "BeachBars$State") (k := 4) (sl := 0) hx dX6_letSandFollow_4 rfl (fun w h => List.mem_cons_of_mem _ (wc_4 w h)) (by decide) (by decide) (by decide +kernel) (fun _ h9 => h9) rfl (fun i h => Nat.lt_of_lt_of_le h (by decide))) ?_
  refine bb_lc (sd_iload_n hx dX6_letSandFollow_7 rfl) ?_
  refine bb_lc (sd_aload_n hx dX6_letSandFollow_8 rfl) ?_
  refine bb_lc (sd_getR (k := 6) (sl := 0) hx dX6_letSandFollow_9 rfl (fun w h => List.mem_cons_of_mem _ (wc_6 w h)) (by decide) (by decide) (List.mem_cons_of_mem _ wd_215) (fun _ h9 => h9) rfl (fun i _ => (by decide))) ?_
  refine bb_lc (sd_getRN (host := "BeachBars") (ref := "BeachBars$State") (k := 4) (sl := 2) hx dX6_letSandFollow_12 rfl (fun w h => List.mem_cons_of_mem _ (wc_4 w h)) (by decide) (by decide) (by decide +kernel) (fun _ h9 => h9) rfl (fun i h => Nat.lt_of_lt_of_le h (by decide))) ?_
  refine bb_lc (sd_iconst hx dX6_letSandFollow_15 (by decide)) ?_
  refine bb_lc (sd_iald hx dX6_letSandFollow_16) ?_
  refine bb_lc (sd_callv hx hcs (fun w h => List.mem_cons_of_mem _ h) dX6_letSandFollow_17 wd_263 mV_62) ?_
  refine bb_lc (sd_istore_n hx dX6_letSandFollow_20 rfl) ?_
  refine bb_lc (sd_aload_n hx dX6_letSandFollow_21 rfl) ?_
  refine bb_lc (sd_getR (k := 6) (sl := 0) hx dX6_letSandFollow_22 rfl (fun w h => List.mem_cons_of_mem _ (wc_6 w h)) (by decide) (by decide) (List.mem_cons_of_mem _ wd_215) (fun _ h9 => h9) rfl (fun i _ => (by decide))) ?_
  refine bb_lc (sd_getRN (host := "BeachBars") (ref := "BeachBars$State") (k := 4) (sl := 0) hx dX6_letSandFollow_25 rfl (fun w h => List.mem_cons_of_mem _ (wc_4 w h)) (by decide) (by decide) (by decide +kernel) (fun _ h9 => h9) rfl (fun i h => Nat.lt_of_lt_of_le h (by decide))) ?_
  refine bb_lc (sd_aload_n hx dX6_letSandFollow_28 rfl) ?_
  refine bb_lc (sd_getR (k := 6) (sl := 0) hx dX6_letSandFollow_29 rfl (fun w h => List.mem_cons_of_mem _ (wc_6 w h)) (by decide) (by decide) (List.mem_cons_of_mem _ wd_215) (fun _ h9 => h9) rfl (fun i _ => (by decide))) ?_
  refine bb_lc (sd_getRN (host := "BeachBars") (ref := "BeachBars$State") (k := 4) (sl := 2) hx dX6_letSandFollow_32 rfl (fun w h => List.mem_cons_of_mem _ (wc_4 w h)) (by decide) (by decide) (by decide +kernel) (fun _ h9 => h9) rfl (fun i h => Nat.lt_of_lt_of_le h (by decide))) ?_
  refine bb_lc (sd_iconst hx dX6_letSandFollow_35 (by decide)) ?_
  refine bb_lc (sd_iald hx dX6_letSandFollow_36) ?_
  refine bb_lc (sd_callv hx hcs (fun w h => List.mem_cons_of_mem _ h) dX6_letSandFollow_37 wd_264 mV_64) ?_
  refine bb_lc (sd_istore_n hx dX6_letSandFollow_40 rfl) ?_
  refine bb_lc (sd_aload_n hx dX6_letSandFollow_41 rfl) ?_
  refine bb_lc (sd_getR (k := 6) (sl := 0) hx dX6_letSandFollow_42 rfl (fun w h => List.mem_cons_of_mem _ (wc_6 w h)) (by decide) (by decide) (List.mem_cons_of_mem _ wd_215) (fun _ h9 => h9) rfl (fun i _ => (by decide))) ?_
  refine bb_lc (sd_getRN (host := "BeachBars") (ref := "BeachBars$State") (k := 4) (sl := 3) hx dX6_letSandFollow_45 rfl (fun w h => List.mem_cons_of_mem _ (wc_4 w h)) (by decide) (by decide) (by decide +kernel) (fun _ h9 => h9) rfl (fun i h => Nat.lt_of_lt_of_le h (by decide))) ?_
  refine bb_lc (sd_bipush hx dX6_letSandFollow_48 (by decide)) ?_
  refine bb_lc (sd_dup2 hx dX6_letSandFollow_50) ?_
  refine bb_lc (sd_iald hx dX6_letSandFollow_51) ?_
  refine bb_lc (sd_iload_n hx dX6_letSandFollow_52 rfl) ?_
  refine bb_lc (sd_iadd hx dX6_letSandFollow_53) ?_
  refine bb_lc (sd_iast hx dX6_letSandFollow_54) ?_
  refine bb_lc (sd_aload_n hx dX6_letSandFollow_55 rfl) ?_
  refine bb_lc (sd_getR (k := 6) (sl := 0) hx dX6_letSandFollow_56 rfl (fun w h => List.mem_cons_of_mem _ (wc_6 w h)) (by decide) (by decide) (List.mem_cons_of_mem _ wd_215) (fun _ h9 => h9) rfl (fun i _ => (by decide))) ?_
  refine bb_lc (sd_getRN (host := "BeachBars") (ref := "BeachBars$State") (k := 4) (sl := 3) hx dX6_letSandFollow_59 rfl (fun w h => List.mem_cons_of_mem _ (wc_4 w h)) (by decide) (by decide) (by decide +kernel) (fun _ h9 => h9) rfl (fun i h => Nat.lt_of_lt_of_le h (by decide))) ?_
  refine bb_lc (sd_bipush hx dX6_letSandFollow_62 (by decide)) ?_
  refine bb_lc (sd_dup2 hx dX6_letSandFollow_64) ?_
  refine bb_lc (sd_iald hx dX6_letSandFollow_65) ?_
  refine bb_lc (sd_iload_n hx dX6_letSandFollow_66 rfl) ?_
  refine bb_lc (sd_iadd hx dX6_letSandFollow_67) ?_
  refine bb_lc (sd_iast hx dX6_letSandFollow_68) ?_
  refine bb_lc (sd_iload_n hx dX6_letSandFollow_69 rfl) ?_
  refine bb_lc (sd_iload_n hx dX6_letSandFollow_70 rfl) ?_
  refine bb_lc (sd_iadd hx dX6_letSandFollow_71) ?_
  refine bb_lc (sd_iret hx dX6_letSandFollow_72 hr hlk) ?_
  exact bb_ln
set_option maxRecDepth 20000 in
theorem sn_X0_size {p : Program} {l : Launch} {e : Env} {R : Room} {s : State} {m : MethodId} {args : Array Value} {below : List Frame} {meth : Method} {c : Code} {D : va_G} {bs : Nat → Prop} {ad : Nat → Nat → Nat} {aI aC aS : ClassId} {Rp : bb_P} {C : bb_C} (hx : bb_Cx p s m args c D bs ad aI aC aS cX0_size RX0 (bb_ws 26)) (hcs : bb_CS l R D bs ad aI aC aS C) (hr : meth.sig.returnType = some .int) (hlk : meth.locks = false) (hRf : 1 ≤ R.frames) (hRl : 36 ≤ R.locals) : ∀ pc, bb_Snd p l e R s m args below meth c D bs ad aI aC aS Rp C pc (cd_X0_size pc) := by
  unfold cd_X0_size
  refine bb_lkS (fun pc => sd_fail) ?_
  refine bb_lc (sd_aload_n hx dX0_size_0 rfl) ?_
  refine bb_lc (sd_getI (k := 0) (sl := 2) hx dX0_size_1 rfl (fun w h => List.mem_cons_of_mem _ (wc_0 w h)) (by decide) (by decide) (List.mem_cons_of_mem _ wd_265) (fun _ h9 => h9) rfl) ?_
  refine bb_lc (sd_iret hx dX0_size_4 hr hlk) ?_
  exact bb_ln
set_option maxRecDepth 20000 in
theorem sn_X0_record {p : Program} {l : Launch} {e : Env} {R : Room} {s : State} {m : MethodId} {args : Array Value} {below : List Frame} {meth : Method} {c : Code} {D : va_G} {bs : Nat → Prop} {ad : Nat → Nat → Nat} {aI aC aS : ClassId} {Rp : bb_P} {C : bb_C} (hx : bb_Cx p s m args c D bs ad aI aC aS cX0_record RX0 (bb_ws 27)) (hcs : bb_CS l R D bs ad aI aC aS C) (hr : meth.sig.returnType = none) (hlk : meth.locks = false) (hRf : 1 ≤ R.frames) (hRl : 36 ≤ R.locals) : ∀ pc, bb_Snd p l e R s m args below meth c D bs ad aI aC aS Rp C pc (cd_X0_record pc) := by
  unfold cd_X0_record
  refine bb_lkS (fun pc => sd_fail) ?_
  refine bb_lc (sd_aload_n hx dX0_record_0 rfl) ?_
  refine bb_lc (sd_getR (k := 0) (sl := 0) hx dX0_record_1 rfl (fun w h => List.mem_cons_of_mem _ (wc_0 w h)) (by decide) (by decide) (List.mem_cons_of_mem _ wd_266) (fun _ h9 => h9) rfl (fun i _ => (by decide))) ?_
  refine bb_lc (sd_aload_n hx dX0_record_4 rfl) ?_
  refine bb_lc (sd_getI (k := 0) (sl := 1) hx dX0_record_5 rfl (fun w h => List.mem_cons_of_mem _ (wc_0 w h)) (by decide) (by decide) (List.mem_cons_of_mem _ wd_267) (fun _ h9 => h9) rfl) ?_
  refine bb_lc (sd_aald hx dX0_record_8) ?_
  refine bb_lc (sd_aload_n hx dX0_record_9 rfl) ?_
  refine bb_lc (sd_callv hx hcs (fun w h => List.mem_cons_of_mem _ h) dX0_record_10 wd_268 mV_67) ?_
  refine bb_lc (sd_aload_n hx dX0_record_13 rfl) ?_
  refine bb_lc (sd_aload_n hx dX0_record_14 rfl) ?_
  refine bb_lc (sd_getI (k := 0) (sl := 1) hx dX0_record_15 rfl (fun w h => List.mem_cons_of_mem _ (wc_0 w h)) (by decide) (by decide) (List.mem_cons_of_mem _ wd_267) (fun _ h9 => h9) rfl) ?_
  refine bb_lc (sd_iconst hx dX0_record_18 (by decide)) ?_
  refine bb_lc (sd_iadd hx dX0_record_19) ?_
  refine bb_lc (sd_iconst hx dX0_record_20 (by decide)) ?_
  refine bb_lc (sd_irem hx dX0_record_21) ?_
  refine bb_lc (sd_putI (k := 0) (sl := 1) hx dX0_record_22 rfl (fun w h => List.mem_cons_of_mem _ (wc_0 w h)) (by decide) (by decide) (List.mem_cons_of_mem _ wd_267) (fun _ h9 => h9) rfl (ty0 := tyX0) tyX0_ok nmX0 rfl (by decide +kernel)) ?_
  refine bb_lc (sd_aload_n hx dX0_record_25 rfl) ?_
  refine bb_lc (sd_aload_n hx dX0_record_26 rfl) ?_
  refine bb_lc (sd_getI (k := 0) (sl := 2) hx dX0_record_27 rfl (fun w h => List.mem_cons_of_mem _ (wc_0 w h)) (by decide) (by decide) (List.mem_cons_of_mem _ wd_265) (fun _ h9 => h9) rfl) ?_
  refine bb_lc (sd_iconst hx dX0_record_30 (by decide)) ?_
  refine bb_lc (sd_iadd hx dX0_record_31) ?_
  refine bb_lc (sd_iconst hx dX0_record_32 (by decide)) ?_
  refine bb_lc (sd_imin hx dX0_record_33 (List.mem_cons_of_mem _ wd_269) (List.mem_cons_of_mem _ wd_270) (List.mem_cons_of_mem _ wd_271) (List.mem_cons_of_mem _ wd_272) hRf (by omega)) ?_
  refine bb_lc (sd_putI (k := 0) (sl := 2) hx dX0_record_36 rfl (fun w h => List.mem_cons_of_mem _ (wc_0 w h)) (by decide) (by decide) (List.mem_cons_of_mem _ wd_265) (fun _ h9 => h9) rfl (ty0 := tyX0) tyX0_ok nmX0 rfl (by decide +kernel)) ?_
  refine bb_lc (sd_ret hx dX0_record_39 hr hlk) ?_
  exact bb_ln
set_option maxRecDepth 20000 in
theorem sn_X0_takeBack {p : Program} {l : Launch} {e : Env} {R : Room} {s : State} {m : MethodId} {args : Array Value} {below : List Frame} {meth : Method} {c : Code} {D : va_G} {bs : Nat → Prop} {ad : Nat → Nat → Nat} {aI aC aS : ClassId} {Rp : bb_P} {C : bb_C} (hx : bb_Cx p s m args c D bs ad aI aC aS cX0_takeBack RX0 (bb_ws 28)) (hcs : bb_CS l R D bs ad aI aC aS C) (hr : meth.sig.returnType = none) (hlk : meth.locks = false) (hRf : 1 ≤ R.frames) (hRl : 36 ≤ R.locals) : ∀ pc, bb_Snd p l e R s m args below meth c D bs ad aI aC aS Rp C pc (cd_X0_takeBack pc) := by
  unfold cd_X0_takeBack
  refine bb_lkS (fun pc => sd_fail) ?_
  refine bb_lc (sd_aload_n hx dX0_takeBack_0 rfl) ?_
  refine bb_lc (sd_aload_n hx dX0_takeBack_1 rfl) ?_
  refine bb_lc (sd_getI (k := 0) (sl := 1) hx dX0_takeBack_2 rfl (fun w h => List.mem_cons_of_mem _ (wc_0 w h)) (by decide) (by decide) (List.mem_cons_of_mem _ wd_267) (fun _ h9 => h9) rfl) ?_
  refine bb_lc (sd_iconst hx dX0_takeBack_5 (by decide)) ?_
  refine bb_lc (sd_iadd hx dX0_takeBack_6) ?_
  refine bb_lc (sd_iconst hx dX0_takeBack_7 (by decide)) ?_
  refine bb_lc (sd_isub hx dX0_takeBack_8) ?_
  refine bb_lc (sd_iconst hx dX0_takeBack_9 (by decide)) ?_
  refine bb_lc (sd_irem hx dX0_takeBack_10) ?_
  refine bb_lc (sd_putI (k := 0) (sl := 1) hx dX0_takeBack_11 rfl (fun w h => List.mem_cons_of_mem _ (wc_0 w h)) (by decide) (by decide) (List.mem_cons_of_mem _ wd_267) (fun _ h9 => h9) rfl (ty0 := tyX0) tyX0_ok nmX0 rfl (by decide +kernel)) ?_
  refine bb_lc (sd_aload_n hx dX0_takeBack_14 rfl) ?_
  refine bb_lc (sd_dup hx dX0_takeBack_15) ?_
  refine bb_lc (sd_getI (k := 0) (sl := 2) hx dX0_takeBack_16 rfl (fun w h => List.mem_cons_of_mem _ (wc_0 w h)) (by decide) (by decide) (List.mem_cons_of_mem _ wd_265) (fun _ h9 => h9) rfl) ?_
  refine bb_lc (sd_iconst hx dX0_takeBack_19 (by decide)) ?_
  refine bb_lc (sd_isub hx dX0_takeBack_20) ?_
  refine bb_lc (sd_putI (k := 0) (sl := 2) hx dX0_takeBack_21 rfl (fun w h => List.mem_cons_of_mem _ (wc_0 w h)) (by decide) (by decide) (List.mem_cons_of_mem _ wd_265) (fun _ h9 => h9) rfl (ty0 := tyX0) tyX0_ok nmX0 rfl (by decide +kernel)) ?_
  refine bb_lc (sd_aload_n hx dX0_takeBack_24 rfl) ?_
  refine bb_lc (sd_aload_n hx dX0_takeBack_25 rfl) ?_
  refine bb_lc (sd_getR (k := 0) (sl := 0) hx dX0_takeBack_26 rfl (fun w h => List.mem_cons_of_mem _ (wc_0 w h)) (by decide) (by decide) (List.mem_cons_of_mem _ wd_266) (fun _ h9 => h9) rfl (fun i _ => (by decide))) ?_
  refine bb_lc (sd_aload_n hx dX0_takeBack_29 rfl) ?_
  refine bb_lc (sd_getI (k := 0) (sl := 1) hx dX0_takeBack_30 rfl (fun w h => List.mem_cons_of_mem _ (wc_0 w h)) (by decide) (by decide) (List.mem_cons_of_mem _ wd_267) (fun _ h9 => h9) rfl) ?_
  refine bb_lc (sd_aald hx dX0_takeBack_33) ?_
  refine bb_lc (sd_callv hx hcs (fun w h => List.mem_cons_of_mem _ h) dX0_takeBack_34 wd_268 mV_67) ?_
  refine bb_lc (sd_ret hx dX0_takeBack_37 hr hlk) ?_
  exact bb_ln
set_option maxRecDepth 20000 in
theorem sn_X1_copyFrom {p : Program} {l : Launch} {e : Env} {R : Room} {s : State} {m : MethodId} {args : Array Value} {below : List Frame} {meth : Method} {c : Code} {D : va_G} {bs : Nat → Prop} {ad : Nat → Nat → Nat} {aI aC aS : ClassId} {Rp : bb_P} {C : bb_C} (hx : bb_Cx p s m args c D bs ad aI aC aS cX1_copyFrom RX1 (bb_ws 29)) (hcs : bb_CS l R D bs ad aI aC aS C) (hr : meth.sig.returnType = none) (hlk : meth.locks = false) (hRf : 1 ≤ R.frames) (hRl : 36 ≤ R.locals) : ∀ pc, bb_Snd p l e R s m args below meth c D bs ad aI aC aS Rp C pc (cd_X1_copyFrom pc) := by
  unfold cd_X1_copyFrom
  refine bb_lkS (fun pc => sd_fail) ?_
  refine bb_lc (sd_aload_n hx dX1_copyFrom_0 rfl) ?_
  refine bb_lc (sd_getR (k := 1) (sl := 0) hx dX1_copyFrom_1 rfl (fun w h => List.mem_cons_of_mem _ (wc_1 w h)) (by decide) (by decide) (List.mem_cons_of_mem _ wd_273) (fun _ h9 => h9) rfl (fun i h => Nat.lt_of_lt_of_le h (by decide))) ?_
  refine bb_lc (sd_iconst hx dX1_copyFrom_4 (by decide)) ?_
  refine bb_lc (sd_aload_n hx dX1_copyFrom_5 rfl) ?_
  refine bb_lc (sd_getR (k := 1) (sl := 0) hx dX1_copyFrom_6 rfl (fun w h => List.mem_cons_of_mem _ (wc_1 w h)) (by decide) (by decide) (List.mem_cons_of_mem _ wd_273) (fun _ h9 => h9) rfl (fun i h => Nat.lt_of_lt_of_le h (by decide))) ?_
  refine bb_lc (sd_iconst hx dX1_copyFrom_9 (by decide)) ?_
  refine bb_lc (sd_bipush hx dX1_copyFrom_10 (by decide)) ?_
  refine bb_lc (sd_acopy hx dX1_copyFrom_12 (List.mem_cons_of_mem _ wd_274) (List.mem_cons_of_mem _ wd_275) (List.mem_cons_of_mem _ wd_276) (List.mem_cons_of_mem _ wd_277) hRf (Nat.le_trans (Nat.le_of_ble_eq_true rfl) hRl)) ?_
  refine bb_lc (sd_aload_n hx dX1_copyFrom_15 rfl) ?_
  refine bb_lc (sd_getR (k := 1) (sl := 1) hx dX1_copyFrom_16 rfl (fun w h => List.mem_cons_of_mem _ (wc_1 w h)) (by decide) (by decide) (List.mem_cons_of_mem _ wd_278) (fun _ h9 => h9) rfl (fun i h => Nat.lt_of_lt_of_le h (by decide))) ?_
  refine bb_lc (sd_iconst hx dX1_copyFrom_19 (by decide)) ?_
  refine bb_lc (sd_aload_n hx dX1_copyFrom_20 rfl) ?_
  refine bb_lc (sd_getR (k := 1) (sl := 1) hx dX1_copyFrom_21 rfl (fun w h => List.mem_cons_of_mem _ (wc_1 w h)) (by decide) (by decide) (List.mem_cons_of_mem _ wd_278) (fun _ h9 => h9) rfl (fun i h => Nat.lt_of_lt_of_le h (by decide))) ?_
  refine bb_lc (sd_iconst hx dX1_copyFrom_24 (by decide)) ?_
  refine bb_lc (sd_bipush hx dX1_copyFrom_25 (by decide)) ?_
  refine bb_lc (sd_acopy hx dX1_copyFrom_27 (List.mem_cons_of_mem _ wd_274) (List.mem_cons_of_mem _ wd_275) (List.mem_cons_of_mem _ wd_276) (List.mem_cons_of_mem _ wd_277) hRf (Nat.le_trans (Nat.le_of_ble_eq_true rfl) hRl)) ?_
  refine bb_lc (sd_aload_n hx dX1_copyFrom_30 rfl) ?_
  refine bb_lc (sd_aload_n hx dX1_copyFrom_31 rfl) ?_
  refine bb_lc (sd_getI (k := 1) (sl := 2) hx dX1_copyFrom_32 rfl (fun w h => List.mem_cons_of_mem _ (wc_1 w h)) (by decide) (by decide) (List.mem_cons_of_mem _ wd_279) (fun _ h9 => h9) rfl) ?_
  refine bb_lc (sd_putI (k := 1) (sl := 2) hx dX1_copyFrom_35 rfl (fun w h => List.mem_cons_of_mem _ (wc_1 w h)) (by decide) (by decide) (List.mem_cons_of_mem _ wd_279) (fun _ h9 => h9) rfl (ty0 := tyX1) tyX1_ok nmX1 rfl (by decide +kernel)) ?_
  refine bb_lc (sd_ret hx dX1_copyFrom_38 hr hlk) ?_
  exact bb_ln
set_option maxRecDepth 20000 in
theorem sn_X1_size {p : Program} {l : Launch} {e : Env} {R : Room} {s : State} {m : MethodId} {args : Array Value} {below : List Frame} {meth : Method} {c : Code} {D : va_G} {bs : Nat → Prop} {ad : Nat → Nat → Nat} {aI aC aS : ClassId} {Rp : bb_P} {C : bb_C} (hx : bb_Cx p s m args c D bs ad aI aC aS cX1_size RX1 (bb_ws 30)) (hcs : bb_CS l R D bs ad aI aC aS C) (hr : meth.sig.returnType = some .int) (hlk : meth.locks = false) (hRf : 1 ≤ R.frames) (hRl : 36 ≤ R.locals) : ∀ pc, bb_Snd p l e R s m args below meth c D bs ad aI aC aS Rp C pc (cd_X1_size pc) := by
  unfold cd_X1_size
  refine bb_lkS (fun pc => sd_fail) ?_
  refine bb_lc (sd_aload_n hx dX1_size_0 rfl) ?_
  refine bb_lc (sd_getI (k := 1) (sl := 2) hx dX1_size_1 rfl (fun w h => List.mem_cons_of_mem _ (wc_1 w h)) (by decide) (by decide) (List.mem_cons_of_mem _ wd_279) (fun _ h9 => h9) rfl) ?_
  refine bb_lc (sd_iret hx dX1_size_4 hr hlk) ?_
  exact bb_ln
set_option maxRecDepth 20000 in
theorem sn_X1_rowOf {p : Program} {l : Launch} {e : Env} {R : Room} {s : State} {m : MethodId} {args : Array Value} {below : List Frame} {meth : Method} {c : Code} {D : va_G} {bs : Nat → Prop} {ad : Nat → Nat → Nat} {aI aC aS : ClassId} {Rp : bb_P} {C : bb_C} (hx : bb_Cx p s m args c D bs ad aI aC aS cX1_rowOf RX1 (bb_ws 31)) (hcs : bb_CS l R D bs ad aI aC aS C) (hr : meth.sig.returnType = some .int) (hlk : meth.locks = false) (hRf : 1 ≤ R.frames) (hRl : 36 ≤ R.locals) : ∀ pc, bb_Snd p l e R s m args below meth c D bs ad aI aC aS Rp C pc (cd_X1_rowOf pc) := by
  unfold cd_X1_rowOf
  refine bb_lkS (fun pc => sd_fail) ?_
  refine bb_lc (sd_aload_n hx dX1_rowOf_0 rfl) ?_
  refine bb_lc (sd_getR (k := 1) (sl := 0) hx dX1_rowOf_1 rfl (fun w h => List.mem_cons_of_mem _ (wc_1 w h)) (by decide) (by decide) (List.mem_cons_of_mem _ wd_273) (fun _ h9 => h9) rfl (fun i h => Nat.lt_of_lt_of_le h (by decide))) ?_
  refine bb_lc (sd_iload_n hx dX1_rowOf_4 rfl) ?_
  refine bb_lc (sd_iald hx dX1_rowOf_5) ?_
  refine bb_lc (sd_iret hx dX1_rowOf_6 hr hlk) ?_
  exact bb_ln
set_option maxRecDepth 20000 in
theorem sn_X1_heightOf {p : Program} {l : Launch} {e : Env} {R : Room} {s : State} {m : MethodId} {args : Array Value} {below : List Frame} {meth : Method} {c : Code} {D : va_G} {bs : Nat → Prop} {ad : Nat → Nat → Nat} {aI aC aS : ClassId} {Rp : bb_P} {C : bb_C} (hx : bb_Cx p s m args c D bs ad aI aC aS cX1_heightOf RX1 (bb_ws 32)) (hcs : bb_CS l R D bs ad aI aC aS C) (hr : meth.sig.returnType = some .int) (hlk : meth.locks = false) (hRf : 1 ≤ R.frames) (hRl : 36 ≤ R.locals) : ∀ pc, bb_Snd p l e R s m args below meth c D bs ad aI aC aS Rp C pc (cd_X1_heightOf pc) := by
  unfold cd_X1_heightOf
  refine bb_lkS (fun pc => sd_fail) ?_
  refine bb_lc (sd_aload_n hx dX1_heightOf_0 rfl) ?_
  refine bb_lc (sd_getR (k := 1) (sl := 1) hx dX1_heightOf_1 rfl (fun w h => List.mem_cons_of_mem _ (wc_1 w h)) (by decide) (by decide) (List.mem_cons_of_mem _ wd_278) (fun _ h9 => h9) rfl (fun i h => Nat.lt_of_lt_of_le h (by decide))) ?_
  refine bb_lc (sd_iload_n hx dX1_heightOf_4 rfl) ?_
  refine bb_lc (sd_iald hx dX1_heightOf_5) ?_
  refine bb_lc (sd_iret hx dX1_heightOf_6 hr hlk) ?_
  exact bb_ln
set_option maxRecDepth 20000 in
theorem sn_X1_add {p : Program} {l : Launch} {e : Env} {R : Room} {s : State} {m : MethodId} {args : Array Value} {below : List Frame} {meth : Method} {c : Code} {D : va_G} {bs : Nat → Prop} {ad : Nat → Nat → Nat} {aI aC aS : ClassId} {Rp : bb_P} {C : bb_C} (hx : bb_Cx p s m args c D bs ad aI aC aS cX1_add RX1 (bb_ws 33)) (hcs : bb_CS l R D bs ad aI aC aS C) (hr : meth.sig.returnType = none) (hlk : meth.locks = false) (hRf : 1 ≤ R.frames) (hRl : 36 ≤ R.locals) : ∀ pc, bb_Snd p l e R s m args below meth c D bs ad aI aC aS Rp C pc (cd_X1_add pc) := by
  unfold cd_X1_add
  refine bb_lkS (fun pc => sd_fail) ?_
  refine bb_lc (sd_aload_n hx dX1_add_0 rfl) ?_
  refine bb_lc (sd_getI (k := 1) (sl := 2) hx dX1_add_1 rfl (fun w h => List.mem_cons_of_mem _ (wc_1 w h)) (by decide) (by decide) (List.mem_cons_of_mem _ wd_279) (fun _ h9 => h9) rfl) ?_
  refine bb_lc (sd_bipush hx dX1_add_4 (by decide)) ?_
  refine bb_lc (sd_icge hx dX1_add_6 (by decide)) ?_
  refine bb_lc (sd_aload_n hx dX1_add_9 rfl) ?_
  refine bb_lc (sd_getR (k := 1) (sl := 0) hx dX1_add_10 rfl (fun w h => List.mem_cons_of_mem _ (wc_1 w h)) (by decide) (by decide) (List.mem_cons_of_mem _ wd_273) (fun _ h9 => h9) rfl (fun i h => Nat.lt_of_lt_of_le h (by decide))) ?_
  refine bb_lc (sd_aload_n hx dX1_add_13 rfl) ?_
  refine bb_lc (sd_getI (k := 1) (sl := 2) hx dX1_add_14 rfl (fun w h => List.mem_cons_of_mem _ (wc_1 w h)) (by decide) (by decide) (List.mem_cons_of_mem _ wd_279) (fun _ h9 => h9) rfl) ?_
  refine bb_lc (sd_iload_n hx dX1_add_17 rfl) ?_
  refine bb_lc (sd_iast hx dX1_add_18) ?_
  refine bb_lc (sd_aload_n hx dX1_add_19 rfl) ?_
  refine bb_lc (sd_getR (k := 1) (sl := 1) hx dX1_add_20 rfl (fun w h => List.mem_cons_of_mem _ (wc_1 w h)) (by decide) (by decide) (List.mem_cons_of_mem _ wd_278) (fun _ h9 => h9) rfl (fun i h => Nat.lt_of_lt_of_le h (by decide))) ?_
  refine bb_lc (sd_aload_n hx dX1_add_23 rfl) ?_
  refine bb_lc (sd_getI (k := 1) (sl := 2) hx dX1_add_24 rfl (fun w h => List.mem_cons_of_mem _ (wc_1 w h)) (by decide) (by decide) (List.mem_cons_of_mem _ wd_279) (fun _ h9 => h9) rfl) ?_
  refine bb_lc (sd_iload_n hx dX1_add_27 rfl) ?_
  refine bb_lc (sd_iast hx dX1_add_28) ?_
  refine bb_lc (sd_aload_n hx dX1_add_29 rfl) ?_
  refine bb_lc (sd_dup hx dX1_add_30) ?_
  refine bb_lc (sd_getI (k := 1) (sl := 2) hx dX1_add_31 rfl (fun w h => List.mem_cons_of_mem _ (wc_1 w h)) (by decide) (by decide) (List.mem_cons_of_mem _ wd_279) (fun _ h9 => h9) rfl) ?_
  refine bb_lc (sd_iconst hx dX1_add_34 (by decide)) ?_
  refine bb_lc (sd_iadd hx dX1_add_35) ?_
  refine bb_lc (sd_putI (k := 1) (sl := 2) hx dX1_add_36 rfl (fun w h => List.mem_cons_of_mem _ (wc_1 w h)) (by decide) (by decide) (List.mem_cons_of_mem _ wd_279) (fun _ h9 => h9) rfl (ty0 := tyX1) tyX1_ok nmX1 rfl (by decide +kernel)) ?_
  refine bb_lc (sd_ret hx dX1_add_39 hr hlk) ?_
  exact bb_ln
set_option maxRecDepth 20000 in
theorem sn_X1_hasBetween {p : Program} {l : Launch} {e : Env} {R : Room} {s : State} {m : MethodId} {args : Array Value} {below : List Frame} {meth : Method} {c : Code} {D : va_G} {bs : Nat → Prop} {ad : Nat → Nat → Nat} {aI aC aS : ClassId} {Rp : bb_P} {C : bb_C} (hx : bb_Cx p s m args c D bs ad aI aC aS cX1_hasBetween RX1 (bb_ws 34)) (hcs : bb_CS l R D bs ad aI aC aS C) (hr : meth.sig.returnType = some .boolean) (hlk : meth.locks = false) (hRf : 1 ≤ R.frames) (hRl : 36 ≤ R.locals) : ∀ pc, bb_Snd p l e R s m args below meth c D bs ad aI aC aS Rp C pc (cd_X1_hasBetween pc) := by
  unfold cd_X1_hasBetween
  refine bb_lkS (fun pc => sd_fail) ?_
  refine bb_lc (sd_iconst hx dX1_hasBetween_0 (by decide)) ?_
  refine bb_lc (sd_istore_n hx dX1_hasBetween_1 rfl) ?_
  refine bb_lc (sd_iload_n hx dX1_hasBetween_2 rfl) ?_
  refine bb_lc (sd_aload_n hx dX1_hasBetween_3 rfl) ?_
  refine bb_lc (sd_getI (k := 1) (sl := 2) hx dX1_hasBetween_4 rfl (fun w h => List.mem_cons_of_mem _ (wc_1 w h)) (by decide) (by decide) (List.mem_cons_of_mem _ wd_279) (fun _ h9 => h9) rfl) ?_
  refine bb_lc (sd_icge hx dX1_hasBetween_7 (by decide)) ?_
  refine bb_lc (sd_aload_n hx dX1_hasBetween_10 rfl) ?_
  refine bb_lc (sd_getR (k := 1) (sl := 1) hx dX1_hasBetween_11 rfl (fun w h => List.mem_cons_of_mem _ (wc_1 w h)) (by decide) (by decide) (List.mem_cons_of_mem _ wd_278) (fun _ h9 => h9) rfl (fun i h => Nat.lt_of_lt_of_le h (by decide))) ?_
  refine bb_lc (sd_iload_n hx dX1_hasBetween_14 rfl) ?_
  refine bb_lc (sd_iald hx dX1_hasBetween_15) ?_
  refine bb_lc (sd_iload_n hx dX1_hasBetween_16 rfl) ?_
  refine bb_lc (sd_iclt hx dX1_hasBetween_17 (by decide)) ?_
  refine bb_lc (sd_aload_n hx dX1_hasBetween_20 rfl) ?_
  refine bb_lc (sd_getR (k := 1) (sl := 1) hx dX1_hasBetween_21 rfl (fun w h => List.mem_cons_of_mem _ (wc_1 w h)) (by decide) (by decide) (List.mem_cons_of_mem _ wd_278) (fun _ h9 => h9) rfl (fun i h => Nat.lt_of_lt_of_le h (by decide))) ?_
  refine bb_lc (sd_iload_n hx dX1_hasBetween_24 rfl) ?_
  refine bb_lc (sd_iald hx dX1_hasBetween_25) ?_
  refine bb_lc (sd_iload_n hx dX1_hasBetween_26 rfl) ?_
  refine bb_lc (sd_icgt hx dX1_hasBetween_27 (by decide)) ?_
  refine bb_lc (sd_iconst hx dX1_hasBetween_30 (by decide)) ?_
  refine bb_lc (sd_zret hx dX1_hasBetween_31 hr hlk) ?_
  refine bb_lc (sd_iinc hx dX1_hasBetween_32 (by decide)) ?_
  refine bb_lc (sd_goto hx dX1_hasBetween_35 (by decide)) ?_
  refine bb_lc (sd_iconst hx dX1_hasBetween_38 (by decide)) ?_
  refine bb_lc (sd_zret hx dX1_hasBetween_39 hr hlk) ?_
  exact bb_ln
set_option maxRecDepth 20000 in
theorem sn_X1_removeBetween {p : Program} {l : Launch} {e : Env} {R : Room} {s : State} {m : MethodId} {args : Array Value} {below : List Frame} {meth : Method} {c : Code} {D : va_G} {bs : Nat → Prop} {ad : Nat → Nat → Nat} {aI aC aS : ClassId} {Rp : bb_P} {C : bb_C} (hx : bb_Cx p s m args c D bs ad aI aC aS cX1_removeBetween RX1 (bb_ws 35)) (hcs : bb_CS l R D bs ad aI aC aS C) (hr : meth.sig.returnType = some .int) (hlk : meth.locks = false) (hRf : 1 ≤ R.frames) (hRl : 36 ≤ R.locals) : ∀ pc, bb_Snd p l e R s m args below meth c D bs ad aI aC aS Rp C pc (cd_X1_removeBetween pc) := by
  unfold cd_X1_removeBetween
  refine bb_lkS (fun pc => sd_fail) ?_
  refine bb_lc (sd_iconst hx dX1_removeBetween_0 (by decide)) ?_
  refine bb_lc (sd_istore_n hx dX1_removeBetween_1 rfl) ?_
  refine bb_lc (sd_iconst hx dX1_removeBetween_2 (by decide)) ?_
  refine bb_lc (sd_istore hx dX1_removeBetween_3) ?_
  refine bb_lc (sd_iload hx dX1_removeBetween_5) ?_
  refine bb_lc (sd_aload_n hx dX1_removeBetween_7 rfl) ?_
  refine bb_lc (sd_getI (k := 1) (sl := 2) hx dX1_removeBetween_8 rfl (fun w h => List.mem_cons_of_mem _ (wc_1 w h)) (by decide) (by decide) (List.mem_cons_of_mem _ wd_279) (fun _ h9 => h9) rfl) ?_
  refine bb_lc (sd_icge hx dX1_removeBetween_11 (by decide)) ?_
  refine bb_lc (sd_aload_n hx dX1_removeBetween_14 rfl) ?_
  refine bb_lc (sd_getR (k := 1) (sl := 1) hx dX1_removeBetween_15 rfl (fun w h => List.mem_cons_of_mem _ (wc_1 w h)) (by decide) (by decide) (List.mem_cons_of_mem _ wd_278) (fun _ h9 => h9) rfl (fun i h => Nat.lt_of_lt_of_le h (by decide))) ?_
  refine bb_lc (sd_iload hx dX1_removeBetween_18) ?_
  refine bb_lc (sd_iald hx dX1_removeBetween_20) ?_
  refine bb_lc (sd_iload_n hx dX1_removeBetween_21 rfl) ?_
  refine bb_lc (sd_iclt hx dX1_removeBetween_22 (by decide)) ?_
  refine bb_lc (sd_aload_n hx dX1_removeBetween_25 rfl) ?_
  refine bb_lc (sd_getR (k := 1) (sl := 1) hx dX1_removeBetween_26 rfl (fun w h => List.mem_cons_of_mem _ (wc_1 w h)) (by decide) (by decide) (List.mem_cons_of_mem _ wd_278) (fun _ h9 => h9) rfl (fun i h => Nat.lt_of_lt_of_le h (by decide))) ?_
  refine bb_lc (sd_iload hx dX1_removeBetween_29) ?_
  refine bb_lc (sd_iald hx dX1_removeBetween_31) ?_
  refine bb_lc (sd_iload_n hx dX1_removeBetween_32 rfl) ?_
  refine bb_lc (sd_icle hx dX1_removeBetween_33 (by decide)) ?_
  refine bb_lc (sd_aload_n hx dX1_removeBetween_36 rfl) ?_
  refine bb_lc (sd_getR (k := 1) (sl := 0) hx dX1_removeBetween_37 rfl (fun w h => List.mem_cons_of_mem _ (wc_1 w h)) (by decide) (by decide) (List.mem_cons_of_mem _ wd_273) (fun _ h9 => h9) rfl (fun i h => Nat.lt_of_lt_of_le h (by decide))) ?_
  refine bb_lc (sd_iload_n hx dX1_removeBetween_40 rfl) ?_
  refine bb_lc (sd_aload_n hx dX1_removeBetween_41 rfl) ?_
  refine bb_lc (sd_getR (k := 1) (sl := 0) hx dX1_removeBetween_42 rfl (fun w h => List.mem_cons_of_mem _ (wc_1 w h)) (by decide) (by decide) (List.mem_cons_of_mem _ wd_273) (fun _ h9 => h9) rfl (fun i h => Nat.lt_of_lt_of_le h (by decide))) ?_
  refine bb_lc (sd_iload hx dX1_removeBetween_45) ?_
  refine bb_lc (sd_iald hx dX1_removeBetween_47) ?_
  refine bb_lc (sd_iast hx dX1_removeBetween_48) ?_
  refine bb_lc (sd_aload_n hx dX1_removeBetween_49 rfl) ?_
  refine bb_lc (sd_getR (k := 1) (sl := 1) hx dX1_removeBetween_50 rfl (fun w h => List.mem_cons_of_mem _ (wc_1 w h)) (by decide) (by decide) (List.mem_cons_of_mem _ wd_278) (fun _ h9 => h9) rfl (fun i h => Nat.lt_of_lt_of_le h (by decide))) ?_
  refine bb_lc (sd_iload_n hx dX1_removeBetween_53 rfl) ?_
  refine bb_lc (sd_aload_n hx dX1_removeBetween_54 rfl) ?_
  refine bb_lc (sd_getR (k := 1) (sl := 1) hx dX1_removeBetween_55 rfl (fun w h => List.mem_cons_of_mem _ (wc_1 w h)) (by decide) (by decide) (List.mem_cons_of_mem _ wd_278) (fun _ h9 => h9) rfl (fun i h => Nat.lt_of_lt_of_le h (by decide))) ?_
  refine bb_lc (sd_iload hx dX1_removeBetween_58) ?_
  refine bb_lc (sd_iald hx dX1_removeBetween_60) ?_
  refine bb_lc (sd_iast hx dX1_removeBetween_61) ?_
  refine bb_lc (sd_iinc hx dX1_removeBetween_62 (by decide)) ?_
  refine bb_lc (sd_iinc hx dX1_removeBetween_65 (by decide)) ?_
  refine bb_lc (sd_goto hx dX1_removeBetween_68 (by decide)) ?_
  refine bb_lc (sd_aload_n hx dX1_removeBetween_71 rfl) ?_
  refine bb_lc (sd_getI (k := 1) (sl := 2) hx dX1_removeBetween_72 rfl (fun w h => List.mem_cons_of_mem _ (wc_1 w h)) (by decide) (by decide) (List.mem_cons_of_mem _ wd_279) (fun _ h9 => h9) rfl) ?_
  refine bb_lc (sd_iload_n hx dX1_removeBetween_75 rfl) ?_
  refine bb_lc (sd_isub hx dX1_removeBetween_76) ?_
  refine bb_lc (sd_istore hx dX1_removeBetween_77) ?_
  refine bb_lc (sd_aload_n hx dX1_removeBetween_79 rfl) ?_
  refine bb_lc (sd_iload_n hx dX1_removeBetween_80 rfl) ?_
  refine bb_lc (sd_putI (k := 1) (sl := 2) hx dX1_removeBetween_81 rfl (fun w h => List.mem_cons_of_mem _ (wc_1 w h)) (by decide) (by decide) (List.mem_cons_of_mem _ wd_279) (fun _ h9 => h9) rfl (ty0 := tyX1) tyX1_ok nmX1 rfl (by decide +kernel)) ?_
  refine bb_lc (sd_iload hx dX1_removeBetween_84) ?_
  refine bb_lc (sd_iret hx dX1_removeBetween_86 hr hlk) ?_
  exact bb_ln
set_option maxRecDepth 20000 in
theorem sn_X1_removeAll {p : Program} {l : Launch} {e : Env} {R : Room} {s : State} {m : MethodId} {args : Array Value} {below : List Frame} {meth : Method} {c : Code} {D : va_G} {bs : Nat → Prop} {ad : Nat → Nat → Nat} {aI aC aS : ClassId} {Rp : bb_P} {C : bb_C} (hx : bb_Cx p s m args c D bs ad aI aC aS cX1_removeAll RX1 (bb_ws 36)) (hcs : bb_CS l R D bs ad aI aC aS C) (hr : meth.sig.returnType = none) (hlk : meth.locks = false) (hRf : 1 ≤ R.frames) (hRl : 36 ≤ R.locals) : ∀ pc, bb_Snd p l e R s m args below meth c D bs ad aI aC aS Rp C pc (cd_X1_removeAll pc) := by
  unfold cd_X1_removeAll
  refine bb_lkS (fun pc => sd_fail) ?_
  refine bb_lc (sd_aload_n hx dX1_removeAll_0 rfl) ?_
  refine bb_lc (sd_iconst hx dX1_removeAll_1 (by decide)) ?_
  refine bb_lc (sd_putI (k := 1) (sl := 2) hx dX1_removeAll_2 rfl (fun w h => List.mem_cons_of_mem _ (wc_1 w h)) (by decide) (by decide) (List.mem_cons_of_mem _ wd_279) (fun _ h9 => h9) rfl (ty0 := tyX1) tyX1_ok nmX1 rfl (by decide +kernel)) ?_
  refine bb_lc (sd_ret hx dX1_removeAll_5 hr hlk) ?_
  exact bb_ln
set_option maxRecDepth 20000 in
theorem sn_X2_fact {p : Program} {l : Launch} {e : Env} {R : Room} {s : State} {m : MethodId} {args : Array Value} {below : List Frame} {meth : Method} {c : Code} {D : va_G} {bs : Nat → Prop} {ad : Nat → Nat → Nat} {aI aC aS : ClassId} {Rp : bb_P} {C : bb_C} (hx : bb_Cx p s m args c D bs ad aI aC aS cX2_fact RX2 (bb_ws 37)) (hcs : bb_CS l R D bs ad aI aC aS C) (hr : meth.sig.returnType = some .int) (hlk : meth.locks = false) (hRf : 1 ≤ R.frames) (hRl : 36 ≤ R.locals) : ∀ pc, bb_Snd p l e R s m args below meth c D bs ad aI aC aS Rp C pc (cd_X2_fact pc) := by
  unfold cd_X2_fact
  refine bb_lkS (fun pc => sd_fail) ?_
  refine bb_lc (sd_aload_n hx dX2_fact_0 rfl) ?_
  refine bb_lc (sd_getR (k := 2) (sl := 0) hx dX2_fact_1 rfl (fun w h => List.mem_cons_of_mem _ (wc_2 w h)) (by decide) (by decide) (List.mem_cons_of_mem _ wd_280) (fun _ h9 => h9) rfl (fun i _ => (by decide))) ?_
  refine bb_lc (sd_iload_n hx dX2_fact_4 rfl) ?_
  refine bb_lc (sd_iald hx dX2_fact_5) ?_
  refine bb_lc (sd_iret hx dX2_fact_6 hr hlk) ?_
  exact bb_ln
set_option maxRecDepth 20000 in
theorem sn_X2_go {p : Program} {l : Launch} {e : Env} {R : Room} {s : State} {m : MethodId} {args : Array Value} {below : List Frame} {meth : Method} {c : Code} {D : va_G} {bs : Nat → Prop} {ad : Nat → Nat → Nat} {aI aC aS : ClassId} {Rp : bb_P} {C : bb_C} (hx : bb_Cx p s m args c D bs ad aI aC aS cX2_go RX2 (bb_ws 38)) (hcs : bb_CS l R D bs ad aI aC aS C) (hr : meth.sig.returnType = none) (hlk : meth.locks = false) (hRf : 1 ≤ R.frames) (hRl : 36 ≤ R.locals) : ∀ pc, bb_Snd p l e R s m args below meth c D bs ad aI aC aS Rp C pc (cd_X2_go pc) := by
  unfold cd_X2_go
  refine bb_lkS (fun pc => sd_fail) ?_
  refine bb_lc (sd_aload_n hx dX2_go_0 rfl) ?_
  refine bb_lc (sd_iload_n hx dX2_go_1 rfl) ?_
  refine bb_lc (sd_iload_n hx dX2_go_2 rfl) ?_
  refine bb_lc (sd_callv hx hcs (fun w h => List.mem_cons_of_mem _ h) dX2_go_3 wd_281 mV_39) ?_
  refine bb_lc (sd_iload_n hx dX2_go_6 rfl) ?_
  refine bb_lc (sd_istore hx dX2_go_7) ?_
  refine bb_lc (sd_bipush hx dX2_go_9 (by decide)) ?_
  refine bb_lc (sd_istore hx dX2_go_11) ?_
  refine bb_lc (sd_iload hx dX2_go_13) ?_
  refine bb_lc (sd_iflt hx dX2_go_15 (by decide)) ?_
  refine bb_lc (sd_iload hx dX2_go_18) ?_
  refine bb_lc (sd_aload_n hx dX2_go_20 rfl) ?_
  refine bb_lc (sd_iload_n hx dX2_go_21 rfl) ?_
  refine bb_lc (sd_iload hx dX2_go_22) ?_
  refine bb_lc (sd_callv hx hcs (fun w h => List.mem_cons_of_mem _ h) dX2_go_24 wd_282 mV_44) ?_
  refine bb_lc (sd_isub hx dX2_go_27) ?_
  refine bb_lc (sd_istore hx dX2_go_28) ?_
  refine bb_lc (sd_iload hx dX2_go_30) ?_
  refine bb_lc (sd_ifgt hx dX2_go_32 (by decide)) ?_
  refine bb_lc (sd_aload_n hx dX2_go_35 rfl) ?_
  refine bb_lc (sd_iload hx dX2_go_36) ?_
  refine bb_lc (sd_iconst hx dX2_go_38 (by decide)) ?_
  refine bb_lc (sd_callv hx hcs (fun w h => List.mem_cons_of_mem _ h) dX2_go_39 wd_283 mV_40) ?_
  refine bb_lc (sd_ret hx dX2_go_42 hr hlk) ?_
  refine bb_lc (sd_iload hx dX2_go_43) ?_
  refine bb_lc (sd_iload hx dX2_go_45) ?_
  refine bb_lc (sd_icge hx dX2_go_47 (by decide)) ?_
  refine bb_lc (sd_aload_n hx dX2_go_50 rfl) ?_
  refine bb_lc (sd_aload_n hx dX2_go_51 rfl) ?_
  refine bb_lc (sd_iload hx dX2_go_52) ?_
  refine bb_lc (sd_iload hx dX2_go_54) ?_
  refine bb_lc (sd_iload hx dX2_go_56) ?_
  refine bb_lc (sd_callv hx hcs (fun w h => List.mem_cons_of_mem _ h) dX2_go_58 wd_284 mV_41) ?_
  refine bb_lc (sd_iload hx dX2_go_61) ?_
  refine bb_lc (sd_iconst hx dX2_go_63 (by decide)) ?_
  refine bb_lc (sd_idiv hx dX2_go_64) ?_
  refine bb_lc (sd_istore hx dX2_go_65) ?_
  refine bb_lc (sd_iload hx dX2_go_67) ?_
  refine bb_lc (sd_ifne hx dX2_go_69 (by decide)) ?_
  refine bb_lc (sd_aload_n hx dX2_go_72 rfl) ?_
  refine bb_lc (sd_iload hx dX2_go_73) ?_
  refine bb_lc (sd_iconst hx dX2_go_75 (by decide)) ?_
  refine bb_lc (sd_callv hx hcs (fun w h => List.mem_cons_of_mem _ h) dX2_go_76 wd_283 mV_40) ?_
  refine bb_lc (sd_ret hx dX2_go_79 hr hlk) ?_
  refine bb_lc (sd_iinc hx dX2_go_80 (by decide)) ?_
  refine bb_lc (sd_goto hx dX2_go_83 (by decide)) ?_
  refine bb_lc (sd_aload_n hx dX2_go_86 rfl) ?_
  refine bb_lc (sd_iconst hx dX2_go_87 (by decide)) ?_
  refine bb_lc (sd_iconst hx dX2_go_88 (by decide)) ?_
  refine bb_lc (sd_callv hx hcs (fun w h => List.mem_cons_of_mem _ h) dX2_go_89 wd_283 mV_40) ?_
  refine bb_lc (sd_ret hx dX2_go_92 hr hlk) ?_
  exact bb_ln
set_option maxRecDepth 20000 in
theorem sn_X2_begin {p : Program} {l : Launch} {e : Env} {R : Room} {s : State} {m : MethodId} {args : Array Value} {below : List Frame} {meth : Method} {c : Code} {D : va_G} {bs : Nat → Prop} {ad : Nat → Nat → Nat} {aI aC aS : ClassId} {Rp : bb_P} {C : bb_C} (hx : bb_Cx p s m args c D bs ad aI aC aS cX2_begin RX2 (bb_ws 39)) (hcs : bb_CS l R D bs ad aI aC aS C) (hr : meth.sig.returnType = none) (hlk : meth.locks = false) (hRf : 1 ≤ R.frames) (hRl : 36 ≤ R.locals) : ∀ pc, bb_Snd p l e R s m args below meth c D bs ad aI aC aS Rp C pc (cd_X2_begin pc) := by
  unfold cd_X2_begin
  refine bb_lkS (fun pc => sd_fail) ?_
  refine bb_lc (sd_aload_n hx dX2_begin_0 rfl) ?_
  refine bb_lc (sd_getR (k := 2) (sl := 0) hx dX2_begin_1 rfl (fun w h => List.mem_cons_of_mem _ (wc_2 w h)) (by decide) (by decide) (List.mem_cons_of_mem _ wd_280) (fun _ h9 => h9) rfl (fun i _ => (by decide))) ?_
  refine bb_lc (sd_iconst hx dX2_begin_4 (by decide)) ?_
  refine bb_lc (sd_iload_n hx dX2_begin_5 rfl) ?_
  refine bb_lc (sd_iast hx dX2_begin_6) ?_
  refine bb_lc (sd_aload_n hx dX2_begin_7 rfl) ?_
  refine bb_lc (sd_getR (k := 2) (sl := 0) hx dX2_begin_8 rfl (fun w h => List.mem_cons_of_mem _ (wc_2 w h)) (by decide) (by decide) (List.mem_cons_of_mem _ wd_280) (fun _ h9 => h9) rfl (fun i _ => (by decide))) ?_
  refine bb_lc (sd_iconst hx dX2_begin_11 (by decide)) ?_
  refine bb_lc (sd_iload_n hx dX2_begin_12 rfl) ?_
  refine bb_lc (sd_iast hx dX2_begin_13) ?_
  refine bb_lc (sd_aload_n hx dX2_begin_14 rfl) ?_
  refine bb_lc (sd_getR (k := 2) (sl := 0) hx dX2_begin_15 rfl (fun w h => List.mem_cons_of_mem _ (wc_2 w h)) (by decide) (by decide) (List.mem_cons_of_mem _ wd_280) (fun _ h9 => h9) rfl (fun i _ => (by decide))) ?_
  refine bb_lc (sd_iconst hx dX2_begin_18 (by decide)) ?_
  refine bb_lc (sd_sipush hx dX2_begin_19 (by decide)) ?_
  refine bb_lc (sd_iast hx dX2_begin_22) ?_
  refine bb_lc (sd_aload_n hx dX2_begin_23 rfl) ?_
  refine bb_lc (sd_getR (k := 2) (sl := 0) hx dX2_begin_24 rfl (fun w h => List.mem_cons_of_mem _ (wc_2 w h)) (by decide) (by decide) (List.mem_cons_of_mem _ wd_280) (fun _ h9 => h9) rfl (fun i _ => (by decide))) ?_
  refine bb_lc (sd_iconst hx dX2_begin_27 (by decide)) ?_
  refine bb_lc (sd_iconst hx dX2_begin_28 (by decide)) ?_
  refine bb_lc (sd_iast hx dX2_begin_29) ?_
  refine bb_lc (sd_aload_n hx dX2_begin_30 rfl) ?_
  refine bb_lc (sd_getR (k := 2) (sl := 0) hx dX2_begin_31 rfl (fun w h => List.mem_cons_of_mem _ (wc_2 w h)) (by decide) (by decide) (List.mem_cons_of_mem _ wd_280) (fun _ h9 => h9) rfl (fun i _ => (by decide))) ?_
  refine bb_lc (sd_bipush hx dX2_begin_34 (by decide)) ?_
  refine bb_lc (sd_iconst hx dX2_begin_36 (by decide)) ?_
  refine bb_lc (sd_iast hx dX2_begin_37) ?_
  refine bb_lc (sd_aload_n hx dX2_begin_38 rfl) ?_
  refine bb_lc (sd_iconst hx dX2_begin_39 (by decide)) ?_
  refine bb_lc (sd_putI (k := 2) (sl := 1) hx dX2_begin_40 rfl (fun w h => List.mem_cons_of_mem _ (wc_2 w h)) (by decide) (by decide) (List.mem_cons_of_mem _ wd_285) (fun _ h9 => h9) rfl (ty0 := tyX2) tyX2_ok nmX2 rfl (by decide +kernel)) ?_
  refine bb_lc (sd_aload_n hx dX2_begin_43 rfl) ?_
  refine bb_lc (sd_iconst hx dX2_begin_44 (by decide)) ?_
  refine bb_lc (sd_putI (k := 2) (sl := 2) hx dX2_begin_45 rfl (fun w h => List.mem_cons_of_mem _ (wc_2 w h)) (by decide) (by decide) (List.mem_cons_of_mem _ wd_286) (fun _ h9 => h9) rfl (ty0 := tyX2) tyX2_ok nmX2 rfl (by decide +kernel)) ?_
  refine bb_lc (sd_ret hx dX2_begin_48 hr hlk) ?_
  exact bb_ln
set_option maxRecDepth 20000 in
theorem sn_X2_end {p : Program} {l : Launch} {e : Env} {R : Room} {s : State} {m : MethodId} {args : Array Value} {below : List Frame} {meth : Method} {c : Code} {D : va_G} {bs : Nat → Prop} {ad : Nat → Nat → Nat} {aI aC aS : ClassId} {Rp : bb_P} {C : bb_C} (hx : bb_Cx p s m args c D bs ad aI aC aS cX2_end RX2 (bb_ws 40)) (hcs : bb_CS l R D bs ad aI aC aS C) (hr : meth.sig.returnType = none) (hlk : meth.locks = false) (hRf : 1 ≤ R.frames) (hRl : 36 ≤ R.locals) : ∀ pc, bb_Snd p l e R s m args below meth c D bs ad aI aC aS Rp C pc (cd_X2_end pc) := by
  unfold cd_X2_end
  refine bb_lkS (fun pc => sd_fail) ?_
  refine bb_lc (sd_aload_n hx dX2_end_0 rfl) ?_
  refine bb_lc (sd_getR (k := 2) (sl := 0) hx dX2_end_1 rfl (fun w h => List.mem_cons_of_mem _ (wc_2 w h)) (by decide) (by decide) (List.mem_cons_of_mem _ wd_280) (fun _ h9 => h9) rfl (fun i _ => (by decide))) ?_
  refine bb_lc (sd_iconst hx dX2_end_4 (by decide)) ?_
  refine bb_lc (sd_iload_n hx dX2_end_5 rfl) ?_
  refine bb_lc (sd_iast hx dX2_end_6) ?_
  refine bb_lc (sd_aload_n hx dX2_end_7 rfl) ?_
  refine bb_lc (sd_getR (k := 2) (sl := 0) hx dX2_end_8 rfl (fun w h => List.mem_cons_of_mem _ (wc_2 w h)) (by decide) (by decide) (List.mem_cons_of_mem _ wd_280) (fun _ h9 => h9) rfl (fun i _ => (by decide))) ?_
  refine bb_lc (sd_iconst hx dX2_end_11 (by decide)) ?_
  refine bb_lc (sd_iload_n hx dX2_end_12 rfl) ?_
  refine bb_lc (sd_iast hx dX2_end_13) ?_
  refine bb_lc (sd_ret hx dX2_end_14 hr hlk) ?_
  exact bb_ln
set_option maxRecDepth 20000 in
theorem sn_X2_breakAt {p : Program} {l : Launch} {e : Env} {R : Room} {s : State} {m : MethodId} {args : Array Value} {below : List Frame} {meth : Method} {c : Code} {D : va_G} {bs : Nat → Prop} {ad : Nat → Nat → Nat} {aI aC aS : ClassId} {Rp : bb_P} {C : bb_C} (hx : bb_Cx p s m args c D bs ad aI aC aS cX2_breakAt RX2 (bb_ws 41)) (hcs : bb_CS l R D bs ad aI aC aS C) (hr : meth.sig.returnType = none) (hlk : meth.locks = false) (hRf : 1 ≤ R.frames) (hRl : 36 ≤ R.locals) : ∀ pc, bb_Snd p l e R s m args below meth c D bs ad aI aC aS Rp C pc (cd_X2_breakAt pc) := by
  unfold cd_X2_breakAt
  refine bb_lkS (fun pc => sd_fail) ?_
  refine bb_lc (sd_aload_n hx dX2_breakAt_0 rfl) ?_
  refine bb_lc (sd_getR (k := 2) (sl := 0) hx dX2_breakAt_1 rfl (fun w h => List.mem_cons_of_mem _ (wc_2 w h)) (by decide) (by decide) (List.mem_cons_of_mem _ wd_280) (fun _ h9 => h9) rfl (fun i _ => (by decide))) ?_
  refine bb_lc (sd_iconst hx dX2_breakAt_4 (by decide)) ?_
  refine bb_lc (sd_iald hx dX2_breakAt_5) ?_
  refine bb_lc (sd_ifne hx dX2_breakAt_6 (by decide)) ?_
  refine bb_lc (sd_aload_n hx dX2_breakAt_9 rfl) ?_
  refine bb_lc (sd_getR (k := 2) (sl := 0) hx dX2_breakAt_10 rfl (fun w h => List.mem_cons_of_mem _ (wc_2 w h)) (by decide) (by decide) (List.mem_cons_of_mem _ wd_280) (fun _ h9 => h9) rfl (fun i _ => (by decide))) ?_
  refine bb_lc (sd_iconst hx dX2_breakAt_13 (by decide)) ?_
  refine bb_lc (sd_iload_n hx dX2_breakAt_14 rfl) ?_
  refine bb_lc (sd_iast hx dX2_breakAt_15) ?_
  refine bb_lc (sd_aload_n hx dX2_breakAt_16 rfl) ?_
  refine bb_lc (sd_getR (k := 2) (sl := 0) hx dX2_breakAt_17 rfl (fun w h => List.mem_cons_of_mem _ (wc_2 w h)) (by decide) (by decide) (List.mem_cons_of_mem _ wd_280) (fun _ h9 => h9) rfl (fun i _ => (by decide))) ?_
  refine bb_lc (sd_iconst hx dX2_breakAt_20 (by decide)) ?_
  refine bb_lc (sd_dup2 hx dX2_breakAt_21) ?_
  refine bb_lc (sd_iald hx dX2_breakAt_22) ?_
  refine bb_lc (sd_iconst hx dX2_breakAt_23 (by decide)) ?_
  refine bb_lc (sd_iadd hx dX2_breakAt_24) ?_
  refine bb_lc (sd_iast hx dX2_breakAt_25) ?_
  refine bb_lc (sd_aload_n hx dX2_breakAt_26 rfl) ?_
  refine bb_lc (sd_getR (k := 2) (sl := 0) hx dX2_breakAt_27 rfl (fun w h => List.mem_cons_of_mem _ (wc_2 w h)) (by decide) (by decide) (List.mem_cons_of_mem _ wd_280) (fun _ h9 => h9) rfl (fun i _ => (by decide))) ?_
  refine bb_lc (sd_iconst hx dX2_breakAt_30 (by decide)) ?_
  refine bb_lc (sd_iald hx dX2_breakAt_31) ?_
  refine bb_lc (sd_istore hx dX2_breakAt_32) ?_
  refine bb_lc (sd_iconst hx dX2_breakAt_34 (by decide)) ?_
  refine bb_lc (sd_iload_n hx dX2_breakAt_35 rfl) ?_
  refine bb_lc (sd_iconst hx dX2_breakAt_36 (by decide)) ?_
  refine bb_lc (sd_idiv hx dX2_breakAt_37) ?_
  refine bb_lc (sd_iadd hx dX2_breakAt_38) ?_
  refine bb_lc (sd_aload_n hx dX2_breakAt_39 rfl) ?_
  refine bb_lc (sd_iload hx dX2_breakAt_40) ?_
  refine bb_lc (sd_iload_n hx dX2_breakAt_42 rfl) ?_
  refine bb_lc (sd_callv hx hcs (fun w h => List.mem_cons_of_mem _ h) dX2_breakAt_43 wd_282 mV_44) ?_
  refine bb_lc (sd_imin hx dX2_breakAt_46 (List.mem_cons_of_mem _ wd_287) (List.mem_cons_of_mem _ wd_270) (List.mem_cons_of_mem _ wd_271) (List.mem_cons_of_mem _ wd_272) hRf (by omega)) ?_
  refine bb_lc (sd_istore hx dX2_breakAt_49) ?_
  refine bb_lc (sd_aload_n hx dX2_breakAt_51 rfl) ?_
  refine bb_lc (sd_aload_n hx dX2_breakAt_52 rfl) ?_
  refine bb_lc (sd_iload hx dX2_breakAt_53) ?_
  refine bb_lc (sd_ifeq hx dX2_breakAt_55 (by decide)) ?_
  refine bb_lc (sd_iload_n hx dX2_breakAt_58 rfl) ?_
  refine bb_lc (sd_iconst hx dX2_breakAt_59 (by decide)) ?_
  refine bb_lc (sd_iadd hx dX2_breakAt_60) ?_
  refine bb_lc (sd_goto hx dX2_breakAt_61 (by decide)) ?_
  refine bb_lc (sd_iload_n hx dX2_breakAt_64 rfl) ?_
  refine bb_lc (sd_iconst hx dX2_breakAt_65 (by decide)) ?_
  refine bb_lc (sd_isub hx dX2_breakAt_66) ?_
  refine bb_lc (sd_iload hx dX2_breakAt_67) ?_
  refine bb_lc (sd_callv hx hcs (fun w h => List.mem_cons_of_mem _ h) dX2_breakAt_69 wd_288 mV_42) ?_
  refine bb_lc (sd_istore hx dX2_breakAt_72) ?_
  refine bb_lc (sd_aload_n hx dX2_breakAt_74 rfl) ?_
  refine bb_lc (sd_iload hx dX2_breakAt_75) ?_
  refine bb_lc (sd_iload_n hx dX2_breakAt_77 rfl) ?_
  refine bb_lc (sd_iload hx dX2_breakAt_78) ?_
  refine bb_lc (sd_ineg hx dX2_breakAt_80) ?_
  refine bb_lc (sd_callv hx hcs (fun w h => List.mem_cons_of_mem _ h) dX2_breakAt_81 wd_289 mV_46) ?_
  refine bb_lc (sd_aload_n hx dX2_breakAt_84 rfl) ?_
  refine bb_lc (sd_getR (k := 2) (sl := 0) hx dX2_breakAt_85 rfl (fun w h => List.mem_cons_of_mem _ (wc_2 w h)) (by decide) (by decide) (List.mem_cons_of_mem _ wd_280) (fun _ h9 => h9) rfl (fun i _ => (by decide))) ?_
  refine bb_lc (sd_bipush hx dX2_breakAt_88 (by decide)) ?_
  refine bb_lc (sd_dup2 hx dX2_breakAt_90) ?_
  refine bb_lc (sd_iald hx dX2_breakAt_91) ?_
  refine bb_lc (sd_iload hx dX2_breakAt_92) ?_
  refine bb_lc (sd_iadd hx dX2_breakAt_94) ?_
  refine bb_lc (sd_iast hx dX2_breakAt_95) ?_
  refine bb_lc (sd_ret hx dX2_breakAt_96 hr hlk) ?_
  exact bb_ln
set_option maxRecDepth 20000 in
theorem sn_X2_give {p : Program} {l : Launch} {e : Env} {R : Room} {s : State} {m : MethodId} {args : Array Value} {below : List Frame} {meth : Method} {c : Code} {D : va_G} {bs : Nat → Prop} {ad : Nat → Nat → Nat} {aI aC aS : ClassId} {Rp : bb_P} {C : bb_C} (hx : bb_Cx p s m args c D bs ad aI aC aS cX2_give RX2 (bb_ws 42)) (hcs : bb_CS l R D bs ad aI aC aS C) (hr : meth.sig.returnType = some .int) (hlk : meth.locks = false) (hRf : 1 ≤ R.frames) (hRl : 36 ≤ R.locals) : ∀ pc, bb_Snd p l e R s m args below meth c D bs ad aI aC aS Rp C pc (cd_X2_give pc) := by
  unfold cd_X2_give
  refine bb_lkS (fun pc => sd_fail) ?_
  refine bb_lc (sd_iload_n hx dX2_give_0 rfl) ?_
  refine bb_lc (sd_ifge hx dX2_give_1 (by decide)) ?_
  refine bb_lc (sd_aload_n hx dX2_give_4 rfl) ?_
  refine bb_lc (sd_dup hx dX2_give_5) ?_
  refine bb_lc (sd_getI (k := 2) (sl := 2) hx dX2_give_6 rfl (fun w h => List.mem_cons_of_mem _ (wc_2 w h)) (by decide) (by decide) (List.mem_cons_of_mem _ wd_286) (fun _ h9 => h9) rfl) ?_
  refine bb_lc (sd_iload_n hx dX2_give_9 rfl) ?_
  refine bb_lc (sd_iadd hx dX2_give_10) ?_
  refine bb_lc (sd_putI (k := 2) (sl := 2) hx dX2_give_11 rfl (fun w h => List.mem_cons_of_mem _ (wc_2 w h)) (by decide) (by decide) (List.mem_cons_of_mem _ wd_286) (fun _ h9 => h9) rfl (ty0 := tyX2) tyX2_ok nmX2 rfl (by decide +kernel)) ?_
  refine bb_lc (sd_iload_n hx dX2_give_14 rfl) ?_
  refine bb_lc (sd_iret hx dX2_give_15 hr hlk) ?_
  refine bb_lc (sd_iload_n hx dX2_give_16 rfl) ?_
  refine bb_lc (sd_bipush hx dX2_give_17 (by decide)) ?_
  refine bb_lc (sd_iclt hx dX2_give_19 (by decide)) ?_
  refine bb_lc (sd_aload_n hx dX2_give_22 rfl) ?_
  refine bb_lc (sd_dup hx dX2_give_23) ?_
  refine bb_lc (sd_getI (k := 2) (sl := 1) hx dX2_give_24 rfl (fun w h => List.mem_cons_of_mem _ (wc_2 w h)) (by decide) (by decide) (List.mem_cons_of_mem _ wd_285) (fun _ h9 => h9) rfl) ?_
  refine bb_lc (sd_iload_n hx dX2_give_27 rfl) ?_
  refine bb_lc (sd_iadd hx dX2_give_28) ?_
  refine bb_lc (sd_putI (k := 2) (sl := 1) hx dX2_give_29 rfl (fun w h => List.mem_cons_of_mem _ (wc_2 w h)) (by decide) (by decide) (List.mem_cons_of_mem _ wd_285) (fun _ h9 => h9) rfl (ty0 := tyX2) tyX2_ok nmX2 rfl (by decide +kernel)) ?_
  refine bb_lc (sd_iload_n hx dX2_give_32 rfl) ?_
  refine bb_lc (sd_iret hx dX2_give_33 hr hlk) ?_
  refine bb_lc (sd_aload_n hx dX2_give_34 rfl) ?_
  refine bb_lc (sd_getR (k := 2) (sl := 0) hx dX2_give_35 rfl (fun w h => List.mem_cons_of_mem _ (wc_2 w h)) (by decide) (by decide) (List.mem_cons_of_mem _ wd_280) (fun _ h9 => h9) rfl (fun i _ => (by decide))) ?_
  refine bb_lc (sd_iconst hx dX2_give_38 (by decide)) ?_
  refine bb_lc (sd_iald hx dX2_give_39) ?_
  refine bb_lc (sd_istore hx dX2_give_40) ?_
  refine bb_lc (sd_iload_n hx dX2_give_42 rfl) ?_
  refine bb_lc (sd_bipush hx dX2_give_43 (by decide)) ?_
  refine bb_lc (sd_aload_n hx dX2_give_45 rfl) ?_
  refine bb_lc (sd_iload hx dX2_give_46) ?_
  refine bb_lc (sd_iload_n hx dX2_give_48 rfl) ?_
  refine bb_lc (sd_callv hx hcs (fun w h => List.mem_cons_of_mem _ h) dX2_give_49 wd_282 mV_44) ?_
  refine bb_lc (sd_isub hx dX2_give_52) ?_
  refine bb_lc (sd_imin hx dX2_give_53 (List.mem_cons_of_mem _ wd_287) (List.mem_cons_of_mem _ wd_270) (List.mem_cons_of_mem _ wd_271) (List.mem_cons_of_mem _ wd_272) hRf (by omega)) ?_
  refine bb_lc (sd_istore hx dX2_give_56) ?_
  refine bb_lc (sd_aload_n hx dX2_give_58 rfl) ?_
  refine bb_lc (sd_iload hx dX2_give_59) ?_
  refine bb_lc (sd_iload_n hx dX2_give_61 rfl) ?_
  refine bb_lc (sd_iload hx dX2_give_62) ?_
  refine bb_lc (sd_callv hx hcs (fun w h => List.mem_cons_of_mem _ h) dX2_give_64 wd_289 mV_46) ?_
  refine bb_lc (sd_iload hx dX2_give_67) ?_
  refine bb_lc (sd_iret hx dX2_give_69 hr hlk) ?_
  exact bb_ln
set_option maxRecDepth 20000 in
theorem sn_X4_copyFrom {p : Program} {l : Launch} {e : Env} {R : Room} {s : State} {m : MethodId} {args : Array Value} {below : List Frame} {meth : Method} {c : Code} {D : va_G} {bs : Nat → Prop} {ad : Nat → Nat → Nat} {aI aC aS : ClassId} {Rp : bb_P} {C : bb_C} (hx : bb_Cx p s m args c D bs ad aI aC aS cX4_copyFrom RX4 (bb_ws 67)) (hcs : bb_CS l R D bs ad aI aC aS C) (hr : meth.sig.returnType = none) (hlk : meth.locks = false) (hRf : 1 ≤ R.frames) (hRl : 36 ≤ R.locals) : ∀ pc, bb_Snd p l e R s m args below meth c D bs ad aI aC aS Rp C pc (cd_X4_copyFrom pc) := by
  unfold cd_X4_copyFrom
  refine bb_lkS (fun pc => sd_fail) ?_
  refine bb_lc (sd_aload_n hx dX4_copyFrom_0 rfl) ?_
  refine bb_lc (sd_getR (k := 4) (sl := 0) hx dX4_copyFrom_1 rfl (fun w h => List.mem_cons_of_mem _ (wc_4 w h)) (by decide) (by decide) (List.mem_cons_of_mem _ wd_313) (fun _ h9 => h9) rfl (fun i h => Nat.lt_of_lt_of_le h (by decide))) ?_
  refine bb_lc (sd_aload_n hx dX4_copyFrom_4 rfl) ?_
  refine bb_lc (sd_getR (k := 4) (sl := 0) hx dX4_copyFrom_5 rfl (fun w h => List.mem_cons_of_mem _ (wc_4 w h)) (by decide) (by decide) (List.mem_cons_of_mem _ wd_313) (fun _ h9 => h9) rfl (fun i h => Nat.lt_of_lt_of_le h (by decide))) ?_
  refine bb_lc (sd_callv hx hcs (fun w h => List.mem_cons_of_mem _ h) dX4_copyFrom_8 wd_314 mV_43) ?_
  refine bb_lc (sd_aload_n hx dX4_copyFrom_11 rfl) ?_
  refine bb_lc (sd_getR (k := 4) (sl := 1) hx dX4_copyFrom_12 rfl (fun w h => List.mem_cons_of_mem _ (wc_4 w h)) (by decide) (by decide) (List.mem_cons_of_mem _ wd_315) (fun _ h9 => h9) rfl (fun i h => Nat.lt_of_lt_of_le h (by decide))) ?_
  refine bb_lc (sd_aload_n hx dX4_copyFrom_15 rfl) ?_
  refine bb_lc (sd_getR (k := 4) (sl := 1) hx dX4_copyFrom_16 rfl (fun w h => List.mem_cons_of_mem _ (wc_4 w h)) (by decide) (by decide) (List.mem_cons_of_mem _ wd_315) (fun _ h9 => h9) rfl (fun i h => Nat.lt_of_lt_of_le h (by decide))) ?_
  refine bb_lc (sd_callv hx hcs (fun w h => List.mem_cons_of_mem _ h) dX4_copyFrom_19 wd_316 mV_29) ?_
  refine bb_lc (sd_aload_n hx dX4_copyFrom_22 rfl) ?_
  refine bb_lc (sd_getR (k := 4) (sl := 2) hx dX4_copyFrom_23 rfl (fun w h => List.mem_cons_of_mem _ (wc_4 w h)) (by decide) (by decide) (List.mem_cons_of_mem _ wd_317) (fun _ h9 => h9) rfl (fun i h => Nat.lt_of_lt_of_le h (by decide))) ?_
  refine bb_lc (sd_iconst hx dX4_copyFrom_26 (by decide)) ?_
  refine bb_lc (sd_aload_n hx dX4_copyFrom_27 rfl) ?_
  refine bb_lc (sd_getR (k := 4) (sl := 2) hx dX4_copyFrom_28 rfl (fun w h => List.mem_cons_of_mem _ (wc_4 w h)) (by decide) (by decide) (List.mem_cons_of_mem _ wd_317) (fun _ h9 => h9) rfl (fun i h => Nat.lt_of_lt_of_le h (by decide))) ?_
  refine bb_lc (sd_iconst hx dX4_copyFrom_31 (by decide)) ?_
  refine bb_lc (sd_iconst hx dX4_copyFrom_32 (by decide)) ?_
  refine bb_lc (sd_acopy hx dX4_copyFrom_33 (List.mem_cons_of_mem _ wd_318) (List.mem_cons_of_mem _ wd_275) (List.mem_cons_of_mem _ wd_276) (List.mem_cons_of_mem _ wd_277) hRf (Nat.le_trans (Nat.le_of_ble_eq_true rfl) hRl)) ?_
  refine bb_lc (sd_aload_n hx dX4_copyFrom_36 rfl) ?_
  refine bb_lc (sd_getR (k := 4) (sl := 3) hx dX4_copyFrom_37 rfl (fun w h => List.mem_cons_of_mem _ (wc_4 w h)) (by decide) (by decide) (List.mem_cons_of_mem _ wd_319) (fun _ h9 => h9) rfl (fun i h => Nat.lt_of_lt_of_le h (by decide))) ?_
  refine bb_lc (sd_iconst hx dX4_copyFrom_40 (by decide)) ?_
  refine bb_lc (sd_aload_n hx dX4_copyFrom_41 rfl) ?_
  refine bb_lc (sd_getR (k := 4) (sl := 3) hx dX4_copyFrom_42 rfl (fun w h => List.mem_cons_of_mem _ (wc_4 w h)) (by decide) (by decide) (List.mem_cons_of_mem _ wd_319) (fun _ h9 => h9) rfl (fun i h => Nat.lt_of_lt_of_le h (by decide))) ?_
  refine bb_lc (sd_iconst hx dX4_copyFrom_45 (by decide)) ?_
  refine bb_lc (sd_bipush hx dX4_copyFrom_46 (by decide)) ?_
  refine bb_lc (sd_acopy hx dX4_copyFrom_48 (List.mem_cons_of_mem _ wd_318) (List.mem_cons_of_mem _ wd_275) (List.mem_cons_of_mem _ wd_276) (List.mem_cons_of_mem _ wd_277) hRf (Nat.le_trans (Nat.le_of_ble_eq_true rfl) hRl)) ?_
  refine bb_lc (sd_aload_n hx dX4_copyFrom_51 rfl) ?_
  refine bb_lc (sd_getR (k := 4) (sl := 4) hx dX4_copyFrom_52 rfl (fun w h => List.mem_cons_of_mem _ (wc_4 w h)) (by decide) (by decide) (List.mem_cons_of_mem _ wd_320) (fun _ h9 => h9) rfl (fun i h => Nat.lt_of_lt_of_le h (by decide))) ?_
  refine bb_lc (sd_iconst hx dX4_copyFrom_55 (by decide)) ?_
  refine bb_lc (sd_aload_n hx dX4_copyFrom_56 rfl) ?_
  refine bb_lc (sd_getR (k := 4) (sl := 4) hx dX4_copyFrom_57 rfl (fun w h => List.mem_cons_of_mem _ (wc_4 w h)) (by decide) (by decide) (List.mem_cons_of_mem _ wd_320) (fun _ h9 => h9) rfl (fun i h => Nat.lt_of_lt_of_le h (by decide))) ?_
  refine bb_lc (sd_iconst hx dX4_copyFrom_60 (by decide)) ?_
  refine bb_lc (sd_aload_n hx dX4_copyFrom_61 rfl) ?_
  refine bb_lc (sd_getR (k := 4) (sl := 4) hx dX4_copyFrom_62 rfl (fun w h => List.mem_cons_of_mem _ (wc_4 w h)) (by decide) (by decide) (List.mem_cons_of_mem _ wd_320) (fun _ h9 => h9) rfl (fun i h => Nat.lt_of_lt_of_le h (by decide))) ?_
  refine bb_lc (sd_alen hx dX4_copyFrom_65) ?_
  refine bb_lc (sd_acopy hx dX4_copyFrom_66 (List.mem_cons_of_mem _ wd_318) (List.mem_cons_of_mem _ wd_275) (List.mem_cons_of_mem _ wd_276) (List.mem_cons_of_mem _ wd_277) hRf (Nat.le_trans (Nat.le_of_ble_eq_true rfl) hRl)) ?_
  refine bb_lc (sd_aload_n hx dX4_copyFrom_69 rfl) ?_
  refine bb_lc (sd_aload_n hx dX4_copyFrom_70 rfl) ?_
  refine bb_lc (sd_getI (k := 4) (sl := 5) hx dX4_copyFrom_71 rfl (fun w h => List.mem_cons_of_mem _ (wc_4 w h)) (by decide) (by decide) (List.mem_cons_of_mem _ wd_321) (fun _ h9 => h9) rfl) ?_
  refine bb_lc (sd_putI (k := 4) (sl := 5) hx dX4_copyFrom_74 rfl (fun w h => List.mem_cons_of_mem _ (wc_4 w h)) (by decide) (by decide) (List.mem_cons_of_mem _ wd_321) (fun _ h9 => h9) rfl (ty0 := tyX4) tyX4_ok nmX4 rfl (by decide +kernel)) ?_
  refine bb_lc (sd_aload_n hx dX4_copyFrom_77 rfl) ?_
  refine bb_lc (sd_aload_n hx dX4_copyFrom_78 rfl) ?_
  refine bb_lc (sd_getI (k := 4) (sl := 6) hx dX4_copyFrom_79 rfl (fun w h => List.mem_cons_of_mem _ (wc_4 w h)) (by decide) (by decide) (List.mem_cons_of_mem _ wd_322) (fun _ h9 => h9) rfl) ?_
  refine bb_lc (sd_putI (k := 4) (sl := 6) hx dX4_copyFrom_82 rfl (fun w h => List.mem_cons_of_mem _ (wc_4 w h)) (by decide) (by decide) (List.mem_cons_of_mem _ wd_322) (fun _ h9 => h9) rfl (ty0 := tyX4) tyX4_ok nmX4 rfl (by decide +kernel)) ?_
  refine bb_lc (sd_ret hx dX4_copyFrom_85 hr hlk) ?_
  exact bb_ln
set_option maxRecDepth 20000 in
theorem sn_X4_takeOver {p : Program} {l : Launch} {e : Env} {R : Room} {s : State} {m : MethodId} {args : Array Value} {below : List Frame} {meth : Method} {c : Code} {D : va_G} {bs : Nat → Prop} {ad : Nat → Nat → Nat} {aI aC aS : ClassId} {Rp : bb_P} {C : bb_C} (hx : bb_Cx p s m args c D bs ad aI aC aS cX4_takeOver RX4 (bb_ws 68)) (hcs : bb_CS l R D bs ad aI aC aS C) (hr : meth.sig.returnType = none) (hlk : meth.locks = false) (hRf : 1 ≤ R.frames) (hRl : 36 ≤ R.locals) : ∀ pc, bb_Snd p l e R s m args below meth c D bs ad aI aC aS Rp C pc (cd_X4_takeOver pc) := by
  unfold cd_X4_takeOver
  refine bb_lkS (fun pc => sd_fail) ?_
  refine bb_lc (sd_aload_n hx dX4_takeOver_0 rfl) ?_
  refine bb_lc (sd_getRN (host := "BeachBars") (ref := "BeachBars$Ride") (k := 2) (sl := 0) hx dX4_takeOver_1 rfl (fun w h => List.mem_cons_of_mem _ (wc_2 w h)) (by decide) (by decide) (by decide +kernel) (fun _ h9 => h9) rfl (fun i _ => (by decide))) ?_
  refine bb_lc (sd_iconst hx dX4_takeOver_4 (by decide)) ?_
  refine bb_lc (sd_aload_n hx dX4_takeOver_5 rfl) ?_
  refine bb_lc (sd_getR (k := 4) (sl := 4) hx dX4_takeOver_6 rfl (fun w h => List.mem_cons_of_mem _ (wc_4 w h)) (by decide) (by decide) (List.mem_cons_of_mem _ wd_320) (fun _ h9 => h9) rfl (fun i h => Nat.lt_of_lt_of_le h (by decide))) ?_
  refine bb_lc (sd_iload_n hx dX4_takeOver_9 rfl) ?_
  refine bb_lc (sd_bipush hx dX4_takeOver_10 (by decide)) ?_
  refine bb_lc (sd_imul hx dX4_takeOver_12) ?_
  refine bb_lc (sd_bipush hx dX4_takeOver_13 (by decide)) ?_
  refine bb_lc (sd_acopy hx dX4_takeOver_15 (List.mem_cons_of_mem _ wd_318) (List.mem_cons_of_mem _ wd_275) (List.mem_cons_of_mem _ wd_276) (List.mem_cons_of_mem _ wd_277) hRf (Nat.le_trans (Nat.le_of_ble_eq_true rfl) hRl)) ?_
  refine bb_lc (sd_aload_n hx dX4_takeOver_18 rfl) ?_
  refine bb_lc (sd_getR (k := 4) (sl := 3) hx dX4_takeOver_19 rfl (fun w h => List.mem_cons_of_mem _ (wc_4 w h)) (by decide) (by decide) (List.mem_cons_of_mem _ wd_319) (fun _ h9 => h9) rfl (fun i h => Nat.lt_of_lt_of_le h (by decide))) ?_
  refine bb_lc (sd_iconst hx dX4_takeOver_22 (by decide)) ?_
  refine bb_lc (sd_dup2 hx dX4_takeOver_23) ?_
  refine bb_lc (sd_iald hx dX4_takeOver_24) ?_
  refine bb_lc (sd_aload_n hx dX4_takeOver_25 rfl) ?_
  refine bb_lc (sd_getIN (host := "BeachBars") (ref := "BeachBars$Ride") (k := 2) (sl := 1) hx dX4_takeOver_26 rfl (fun w h => List.mem_cons_of_mem _ (wc_2 w h)) (by decide) (by decide) (by decide +kernel) (fun _ h9 => h9) rfl) ?_
  refine bb_lc (sd_iadd hx dX4_takeOver_29) ?_
  refine bb_lc (sd_iast hx dX4_takeOver_30) ?_
  refine bb_lc (sd_aload_n hx dX4_takeOver_31 rfl) ?_
  refine bb_lc (sd_getR (k := 4) (sl := 3) hx dX4_takeOver_32 rfl (fun w h => List.mem_cons_of_mem _ (wc_4 w h)) (by decide) (by decide) (List.mem_cons_of_mem _ wd_319) (fun _ h9 => h9) rfl (fun i h => Nat.lt_of_lt_of_le h (by decide))) ?_
  refine bb_lc (sd_iconst hx dX4_takeOver_35 (by decide)) ?_
  refine bb_lc (sd_dup2 hx dX4_takeOver_36) ?_
  refine bb_lc (sd_iald hx dX4_takeOver_37) ?_
  refine bb_lc (sd_aload_n hx dX4_takeOver_38 rfl) ?_
  refine bb_lc (sd_getIN (host := "BeachBars") (ref := "BeachBars$Ride") (k := 2) (sl := 2) hx dX4_takeOver_39 rfl (fun w h => List.mem_cons_of_mem _ (wc_2 w h)) (by decide) (by decide) (by decide +kernel) (fun _ h9 => h9) rfl) ?_
  refine bb_lc (sd_iadd hx dX4_takeOver_42) ?_
  refine bb_lc (sd_iast hx dX4_takeOver_43) ?_
  refine bb_lc (sd_aload_n hx dX4_takeOver_44 rfl) ?_
  refine bb_lc (sd_getR (k := 4) (sl := 3) hx dX4_takeOver_45 rfl (fun w h => List.mem_cons_of_mem _ (wc_4 w h)) (by decide) (by decide) (List.mem_cons_of_mem _ wd_319) (fun _ h9 => h9) rfl (fun i h => Nat.lt_of_lt_of_le h (by decide))) ?_
  refine bb_lc (sd_iconst hx dX4_takeOver_48 (by decide)) ?_
  refine bb_lc (sd_dup2 hx dX4_takeOver_49) ?_
  refine bb_lc (sd_iald hx dX4_takeOver_50) ?_
  refine bb_lc (sd_iconst hx dX4_takeOver_51 (by decide)) ?_
  refine bb_lc (sd_iadd hx dX4_takeOver_52) ?_
  refine bb_lc (sd_iast hx dX4_takeOver_53) ?_
  refine bb_lc (sd_aload_n hx dX4_takeOver_54 rfl) ?_
  refine bb_lc (sd_getR (k := 4) (sl := 3) hx dX4_takeOver_55 rfl (fun w h => List.mem_cons_of_mem _ (wc_4 w h)) (by decide) (by decide) (List.mem_cons_of_mem _ wd_319) (fun _ h9 => h9) rfl (fun i h => Nat.lt_of_lt_of_le h (by decide))) ?_
  refine bb_lc (sd_bipush hx dX4_takeOver_58 (by decide)) ?_
  refine bb_lc (sd_dup2 hx dX4_takeOver_60) ?_
  refine bb_lc (sd_iald hx dX4_takeOver_61) ?_
  refine bb_lc (sd_aload_n hx dX4_takeOver_62 rfl) ?_
  refine bb_lc (sd_iconst hx dX4_takeOver_63 (by decide)) ?_
  refine bb_lc (sd_callv hx hcs (fun w h => List.mem_cons_of_mem _ h) dX4_takeOver_64 wd_323 mV_37) ?_
  refine bb_lc (sd_iadd hx dX4_takeOver_67) ?_
  refine bb_lc (sd_iast hx dX4_takeOver_68) ?_
  refine bb_lc (sd_ret hx dX4_takeOver_69 hr hlk) ?_
  exact bb_ln
set_option maxRecDepth 20000 in
theorem sn_X5_length {p : Program} {l : Launch} {e : Env} {R : Room} {s : State} {m : MethodId} {args : Array Value} {below : List Frame} {meth : Method} {c : Code} {D : va_G} {bs : Nat → Prop} {ad : Nat → Nat → Nat} {aI aC aS : ClassId} {Rp : bb_P} {C : bb_C} (hx : bb_Cx p s m args c D bs ad aI aC aS cX5_length RX5 (bb_ws 69)) (hcs : bb_CS l R D bs ad aI aC aS C) (hr : meth.sig.returnType = some .int) (hlk : meth.locks = false) (hRf : 1 ≤ R.frames) (hRl : 36 ≤ R.locals) : ∀ pc, bb_Snd p l e R s m args below meth c D bs ad aI aC aS Rp C pc (cd_X5_length pc) := by
  unfold cd_X5_length
  refine bb_lkS (fun pc => sd_fail) ?_
  refine bb_lc (sd_aload_n hx dX5_length_0 rfl) ?_
  refine bb_lc (sd_getI (k := 5) (sl := 1) hx dX5_length_1 rfl (fun w h => List.mem_cons_of_mem _ (wc_5 w h)) (by decide) (by decide) (List.mem_cons_of_mem _ wd_324) (fun _ h9 => h9) rfl) ?_
  refine bb_lc (sd_iret hx dX5_length_4 hr hlk) ?_
  exact bb_ln
