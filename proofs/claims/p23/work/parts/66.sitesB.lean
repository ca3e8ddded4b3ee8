/-! SITES, by program (wip/p23/gen_sites.py) -/
set_option maxRecDepth 20000 in
theorem sn_X3_copyFrom {p : Program} {l : Launch} {e : Env} {R : Room} {s : State} {m : MethodId} {args : Array Value} {below : List Frame} {meth : Method} {c : Code} {D : va_G} {bs : Nat → Prop} {ad : Nat → Nat → Nat} {aI aC aS : ClassId} {Rp : bb_P} {C : bb_C} (hx : bb_Cx p s m args c D bs ad aI aC aS cX3_copyFrom RX3 (bb_ws 43)) (hcs : bb_CS l R D bs ad aI aC aS C) (hr : meth.sig.returnType = none) (hlk : meth.locks = false) (hRf : 1 ≤ R.frames) (hRl : 36 ≤ R.locals) : ∀ pc, bb_Snd p l e R s m args below meth c D bs ad aI aC aS Rp C pc (cd_X3_copyFrom pc) := by
  unfold cd_X3_copyFrom
  refine bb_lkS (fun pc => sd_fail) ?_
  refine bb_lc (sd_aload_n hx dX3_copyFrom_0 rfl) ?_
  refine bb_lc (sd_getR (k := 3) (sl := 0) hx dX3_copyFrom_1 rfl (fun w h => List.mem_cons_of_mem _ (wc_3 w h)) (by decide) (by decide) (List.mem_cons_of_mem _ wd_290) (fun _ h9 => h9) rfl (fun i h => Nat.lt_of_lt_of_le h (by decide))) ?_
  refine bb_lc (sd_iconst hx dX3_copyFrom_4 (by decide)) ?_
  refine bb_lc (sd_aload_n hx dX3_copyFrom_5 rfl) ?_
  refine bb_lc (sd_getR (k := 3) (sl := 0) hx dX3_copyFrom_6 rfl (fun w h => List.mem_cons_of_mem _ (wc_3 w h)) (by decide) (by decide) (List.mem_cons_of_mem _ wd_290) (fun _ h9 => h9) rfl (fun i h => Nat.lt_of_lt_of_le h (by decide))) ?_
  refine bb_lc (sd_iconst hx dX3_copyFrom_9 (by decide)) ?_
  refine bb_lc (sd_aload_n hx dX3_copyFrom_10 rfl) ?_
  refine bb_lc (sd_getR (k := 3) (sl := 0) hx dX3_copyFrom_11 rfl (fun w h => List.mem_cons_of_mem _ (wc_3 w h)) (by decide) (by decide) (List.mem_cons_of_mem _ wd_290) (fun _ h9 => h9) rfl (fun i h => Nat.lt_of_lt_of_le h (by decide))) ?_
  refine bb_lc (sd_alen hx dX3_copyFrom_14) ?_
  refine bb_lc (sd_acopy hx dX3_copyFrom_15 (List.mem_cons_of_mem _ wd_291) (List.mem_cons_of_mem _ wd_275) (List.mem_cons_of_mem _ wd_276) (List.mem_cons_of_mem _ wd_277) hRf (Nat.le_trans (Nat.le_of_ble_eq_true rfl) hRl)) ?_
  refine bb_lc (sd_ret hx dX3_copyFrom_18 hr hlk) ?_
  exact bb_ln
set_option maxRecDepth 20000 in
theorem sn_X3_heightAt {p : Program} {l : Launch} {e : Env} {R : Room} {s : State} {m : MethodId} {args : Array Value} {below : List Frame} {meth : Method} {c : Code} {D : va_G} {bs : Nat → Prop} {ad : Nat → Nat → Nat} {aI aC aS : ClassId} {Rp : bb_P} {C : bb_C} (hx : bb_Cx p s m args c D bs ad aI aC aS cX3_heightAt RX3 (bb_ws 44)) (hcs : bb_CS l R D bs ad aI aC aS C) (hr : meth.sig.returnType = some .int) (hlk : meth.locks = false) (hRf : 1 ≤ R.frames) (hRl : 36 ≤ R.locals) : ∀ pc, bb_Snd p l e R s m args below meth c D bs ad aI aC aS Rp C pc (cd_X3_heightAt pc) := by
  unfold cd_X3_heightAt
  refine bb_lkS (fun pc => sd_fail) ?_
  refine bb_lc (sd_aload_n hx dX3_heightAt_0 rfl) ?_
  refine bb_lc (sd_getR (k := 3) (sl := 0) hx dX3_heightAt_1 rfl (fun w h => List.mem_cons_of_mem _ (wc_3 w h)) (by decide) (by decide) (List.mem_cons_of_mem _ wd_290) (fun _ h9 => h9) rfl (fun i h => Nat.lt_of_lt_of_le h (by decide))) ?_
  refine bb_lc (sd_iload_n hx dX3_heightAt_4 rfl) ?_
  refine bb_lc (sd_bipush hx dX3_heightAt_5 (by decide)) ?_
  refine bb_lc (sd_imul hx dX3_heightAt_7) ?_
  refine bb_lc (sd_iload_n hx dX3_heightAt_8 rfl) ?_
  refine bb_lc (sd_iadd hx dX3_heightAt_9) ?_
  refine bb_lc (sd_iald hx dX3_heightAt_10) ?_
  refine bb_lc (sd_iret hx dX3_heightAt_11 hr hlk) ?_
  exact bb_ln
set_option maxRecDepth 20000 in
theorem sn_X3_setHeight {p : Program} {l : Launch} {e : Env} {R : Room} {s : State} {m : MethodId} {args : Array Value} {below : List Frame} {meth : Method} {c : Code} {D : va_G} {bs : Nat → Prop} {ad : Nat → Nat → Nat} {aI aC aS : ClassId} {Rp : bb_P} {C : bb_C} (hx : bb_Cx p s m args c D bs ad aI aC aS cX3_setHeight RX3 (bb_ws 45)) (hcs : bb_CS l R D bs ad aI aC aS C) (hr : meth.sig.returnType = none) (hlk : meth.locks = false) (hRf : 1 ≤ R.frames) (hRl : 36 ≤ R.locals) : ∀ pc, bb_Snd p l e R s m args below meth c D bs ad aI aC aS Rp C pc (cd_X3_setHeight pc) := by
  unfold cd_X3_setHeight
  refine bb_lkS (fun pc => sd_fail) ?_
  refine bb_lc (sd_aload_n hx dX3_setHeight_0 rfl) ?_
  refine bb_lc (sd_getR (k := 3) (sl := 0) hx dX3_setHeight_1 rfl (fun w h => List.mem_cons_of_mem _ (wc_3 w h)) (by decide) (by decide) (List.mem_cons_of_mem _ wd_290) (fun _ h9 => h9) rfl (fun i h => Nat.lt_of_lt_of_le h (by decide))) ?_
  refine bb_lc (sd_iload_n hx dX3_setHeight_4 rfl) ?_
  refine bb_lc (sd_bipush hx dX3_setHeight_5 (by decide)) ?_
  refine bb_lc (sd_imul hx dX3_setHeight_7) ?_
  refine bb_lc (sd_iload_n hx dX3_setHeight_8 rfl) ?_
  refine bb_lc (sd_iadd hx dX3_setHeight_9) ?_
  refine bb_lc (sd_iload_n hx dX3_setHeight_10 rfl) ?_
  refine bb_lc (sd_iast hx dX3_setHeight_11) ?_
  refine bb_lc (sd_ret hx dX3_setHeight_12 hr hlk) ?_
  exact bb_ln
set_option maxRecDepth 20000 in
theorem sn_X3_addTo {p : Program} {l : Launch} {e : Env} {R : Room} {s : State} {m : MethodId} {args : Array Value} {below : List Frame} {meth : Method} {c : Code} {D : va_G} {bs : Nat → Prop} {ad : Nat → Nat → Nat} {aI aC aS : ClassId} {Rp : bb_P} {C : bb_C} (hx : bb_Cx p s m args c D bs ad aI aC aS cX3_addTo RX3 (bb_ws 46)) (hcs : bb_CS l R D bs ad aI aC aS C) (hr : meth.sig.returnType = none) (hlk : meth.locks = false) (hRf : 1 ≤ R.frames) (hRl : 36 ≤ R.locals) : ∀ pc, bb_Snd p l e R s m args below meth c D bs ad aI aC aS Rp C pc (cd_X3_addTo pc) := by
  unfold cd_X3_addTo
  refine bb_lkS (fun pc => sd_fail) ?_
  refine bb_lc (sd_aload_n hx dX3_addTo_0 rfl) ?_
  refine bb_lc (sd_getR (k := 3) (sl := 0) hx dX3_addTo_1 rfl (fun w h => List.mem_cons_of_mem _ (wc_3 w h)) (by decide) (by decide) (List.mem_cons_of_mem _ wd_290) (fun _ h9 => h9) rfl (fun i h => Nat.lt_of_lt_of_le h (by decide))) ?_
  refine bb_lc (sd_iload_n hx dX3_addTo_4 rfl) ?_
  refine bb_lc (sd_bipush hx dX3_addTo_5 (by decide)) ?_
  refine bb_lc (sd_imul hx dX3_addTo_7) ?_
  refine bb_lc (sd_iload_n hx dX3_addTo_8 rfl) ?_
  refine bb_lc (sd_iadd hx dX3_addTo_9) ?_
  refine bb_lc (sd_dup2 hx dX3_addTo_10) ?_
  refine bb_lc (sd_iald hx dX3_addTo_11) ?_
  refine bb_lc (sd_iload_n hx dX3_addTo_12 rfl) ?_
  refine bb_lc (sd_iadd hx dX3_addTo_13) ?_
  refine bb_lc (sd_iast hx dX3_addTo_14) ?_
  refine bb_lc (sd_ret hx dX3_addTo_15 hr hlk) ?_
  exact bb_ln
set_option maxRecDepth 20000 in
theorem sn_X3_between {p : Program} {l : Launch} {e : Env} {R : Room} {s : State} {m : MethodId} {args : Array Value} {below : List Frame} {meth : Method} {c : Code} {D : va_G} {bs : Nat → Prop} {ad : Nat → Nat → Nat} {aI aC aS : ClassId} {Rp : bb_P} {C : bb_C} (hx : bb_Cx p s m args c D bs ad aI aC aS cX3_between RX3 (bb_ws 47)) (hcs : bb_CS l R D bs ad aI aC aS C) (hr : meth.sig.returnType = some .int) (hlk : meth.locks = false) (hRf : 1 ≤ R.frames) (hRl : 36 ≤ R.locals) : ∀ pc, bb_Snd p l e R s m args below meth c D bs ad aI aC aS Rp C pc (cd_X3_between pc) := by
  unfold cd_X3_between
  refine bb_lkS (fun pc => sd_fail) ?_
  refine bb_lc (sd_iconst hx dX3_between_0 (by decide)) ?_
  refine bb_lc (sd_istore_n hx dX3_between_1 rfl) ?_
  refine bb_lc (sd_iconst hx dX3_between_2 (by decide)) ?_
  refine bb_lc (sd_istore hx dX3_between_3) ?_
  refine bb_lc (sd_iload hx dX3_between_5) ?_
  refine bb_lc (sd_iconst hx dX3_between_7 (by decide)) ?_
  refine bb_lc (sd_icge hx dX3_between_8 (by decide)) ?_
  refine bb_lc (sd_iload_n hx dX3_between_11 rfl) ?_
  refine bb_lc (sd_istore hx dX3_between_12) ?_
  refine bb_lc (sd_iload hx dX3_between_14) ?_
  refine bb_lc (sd_iload_n hx dX3_between_16 rfl) ?_
  refine bb_lc (sd_icgt hx dX3_between_17 (by decide)) ?_
  refine bb_lc (sd_iload_n hx dX3_between_20 rfl) ?_
  refine bb_lc (sd_aload_n hx dX3_between_21 rfl) ?_
  refine bb_lc (sd_iload hx dX3_between_22) ?_
  refine bb_lc (sd_iload hx dX3_between_24) ?_
  refine bb_lc (sd_callv hx hcs (fun w h => List.mem_cons_of_mem _ h) dX3_between_26 wd_292 mV_44) ?_
  refine bb_lc (sd_iadd hx dX3_between_29) ?_
  refine bb_lc (sd_istore_n hx dX3_between_30 rfl) ?_
  refine bb_lc (sd_iinc hx dX3_between_31 (by decide)) ?_
  refine bb_lc (sd_goto hx dX3_between_34 (by decide)) ?_
  refine bb_lc (sd_iinc hx dX3_between_37 (by decide)) ?_
  refine bb_lc (sd_goto hx dX3_between_40 (by decide)) ?_
  refine bb_lc (sd_iload_n hx dX3_between_43 rfl) ?_
  refine bb_lc (sd_iret hx dX3_between_44 hr hlk) ?_
  exact bb_ln
set_option maxRecDepth 20000 in
theorem sn_X3_all {p : Program} {l : Launch} {e : Env} {R : Room} {s : State} {m : MethodId} {args : Array Value} {below : List Frame} {meth : Method} {c : Code} {D : va_G} {bs : Nat → Prop} {ad : Nat → Nat → Nat} {aI aC aS : ClassId} {Rp : bb_P} {C : bb_C} (hx : bb_Cx p s m args c D bs ad aI aC aS cX3_all RX3 (bb_ws 48)) (hcs : bb_CS l R D bs ad aI aC aS C) (hr : meth.sig.returnType = some .int) (hlk : meth.locks = false) (hRf : 1 ≤ R.frames) (hRl : 36 ≤ R.locals) : ∀ pc, bb_Snd p l e R s m args below meth c D bs ad aI aC aS Rp C pc (cd_X3_all pc) := by
  unfold cd_X3_all
  refine bb_lkS (fun pc => sd_fail) ?_
  refine bb_lc (sd_aload_n hx dX3_all_0 rfl) ?_
  refine bb_lc (sd_iconst hx dX3_all_1 (by decide)) ?_
  refine bb_lc (sd_bipush hx dX3_all_2 (by decide)) ?_
  refine bb_lc (sd_callv hx hcs (fun w h => List.mem_cons_of_mem _ h) dX3_all_4 wd_293 mV_47) ?_
  refine bb_lc (sd_iret hx dX3_all_7 hr hlk) ?_
  exact bb_ln
set_option maxRecDepth 20000 in
theorem sn_X3_inRow {p : Program} {l : Launch} {e : Env} {R : Room} {s : State} {m : MethodId} {args : Array Value} {below : List Frame} {meth : Method} {c : Code} {D : va_G} {bs : Nat → Prop} {ad : Nat → Nat → Nat} {aI aC aS : ClassId} {Rp : bb_P} {C : bb_C} (hx : bb_Cx p s m args c D bs ad aI aC aS cX3_inRow RX3 (bb_ws 49)) (hcs : bb_CS l R D bs ad aI aC aS C) (hr : meth.sig.returnType = some .int) (hlk : meth.locks = false) (hRf : 1 ≤ R.frames) (hRl : 36 ≤ R.locals) : ∀ pc, bb_Snd p l e R s m args below meth c D bs ad aI aC aS Rp C pc (cd_X3_inRow pc) := by
  unfold cd_X3_inRow
  refine bb_lkS (fun pc => sd_fail) ?_
  refine bb_lc (sd_iconst hx dX3_inRow_0 (by decide)) ?_
  refine bb_lc (sd_istore_n hx dX3_inRow_1 rfl) ?_
  refine bb_lc (sd_iconst hx dX3_inRow_2 (by decide)) ?_
  refine bb_lc (sd_istore_n hx dX3_inRow_3 rfl) ?_
  refine bb_lc (sd_iload_n hx dX3_inRow_4 rfl) ?_
  refine bb_lc (sd_bipush hx dX3_inRow_5 (by decide)) ?_
  refine bb_lc (sd_icge hx dX3_inRow_7 (by decide)) ?_
  refine bb_lc (sd_iload_n hx dX3_inRow_10 rfl) ?_
  refine bb_lc (sd_aload_n hx dX3_inRow_11 rfl) ?_
  refine bb_lc (sd_iload_n hx dX3_inRow_12 rfl) ?_
  refine bb_lc (sd_iload_n hx dX3_inRow_13 rfl) ?_
  refine bb_lc (sd_callv hx hcs (fun w h => List.mem_cons_of_mem _ h) dX3_inRow_14 wd_292 mV_44) ?_
  refine bb_lc (sd_iadd hx dX3_inRow_17) ?_
  refine bb_lc (sd_istore_n hx dX3_inRow_18 rfl) ?_
  refine bb_lc (sd_iinc hx dX3_inRow_19 (by decide)) ?_
  refine bb_lc (sd_goto hx dX3_inRow_22 (by decide)) ?_
  refine bb_lc (sd_iload_n hx dX3_inRow_25 rfl) ?_
  refine bb_lc (sd_iret hx dX3_inRow_26 hr hlk) ?_
  exact bb_ln
set_option maxRecDepth 20000 in
theorem sn_X3_isDry {p : Program} {l : Launch} {e : Env} {R : Room} {s : State} {m : MethodId} {args : Array Value} {below : List Frame} {meth : Method} {c : Code} {D : va_G} {bs : Nat → Prop} {ad : Nat → Nat → Nat} {aI aC aS : ClassId} {Rp : bb_P} {C : bb_C} (hx : bb_Cx p s m args c D bs ad aI aC aS cX3_isDry RX3 (bb_ws 50)) (hcs : bb_CS l R D bs ad aI aC aS C) (hr : meth.sig.returnType = some .boolean) (hlk : meth.locks = false) (hRf : 1 ≤ R.frames) (hRl : 36 ≤ R.locals) : ∀ pc, bb_Snd p l e R s m args below meth c D bs ad aI aC aS Rp C pc (cd_X3_isDry pc) := by
  unfold cd_X3_isDry
  refine bb_lkS (fun pc => sd_fail) ?_
  refine bb_lc (sd_iload_n hx dX3_isDry_0 rfl) ?_
  refine bb_lc (sd_aload_n hx dX3_isDry_1 rfl) ?_
  refine bb_lc (sd_iload_n hx dX3_isDry_2 rfl) ?_
  refine bb_lc (sd_iload_n hx dX3_isDry_3 rfl) ?_
  refine bb_lc (sd_callv hx hcs (fun w h => List.mem_cons_of_mem _ h) dX3_isDry_4 wd_292 mV_44) ?_
  refine bb_lc (sd_icgt hx dX3_isDry_7 (by decide)) ?_
  refine bb_lc (sd_iconst hx dX3_isDry_10 (by decide)) ?_
  refine bb_lc (sd_goto hx dX3_isDry_11 (by decide)) ?_
  refine bb_lc (sd_iconst hx dX3_isDry_14 (by decide)) ?_
  refine bb_lc (sd_zret hx dX3_isDry_15 hr hlk) ?_
  exact bb_ln
set_option maxRecDepth 20000 in
theorem sn_X3_isBar {p : Program} {l : Launch} {e : Env} {R : Room} {s : State} {m : MethodId} {args : Array Value} {below : List Frame} {meth : Method} {c : Code} {D : va_G} {bs : Nat → Prop} {ad : Nat → Nat → Nat} {aI aC aS : ClassId} {Rp : bb_P} {C : bb_C} (hx : bb_Cx p s m args c D bs ad aI aC aS cX3_isBar RX3 (bb_ws 51)) (hcs : bb_CS l R D bs ad aI aC aS C) (hr : meth.sig.returnType = some .boolean) (hlk : meth.locks = false) (hRf : 1 ≤ R.frames) (hRl : 36 ≤ R.locals) : ∀ pc, bb_Snd p l e R s m args below meth c D bs ad aI aC aS Rp C pc (cd_X3_isBar pc) := by
  unfold cd_X3_isBar
  refine bb_lkS (fun pc => sd_fail) ?_
  refine bb_lc (sd_iload_n hx dX3_isBar_0 rfl) ?_
  refine bb_lc (sd_iconst hx dX3_isBar_1 (by decide)) ?_
  refine bb_lc (sd_iclt hx dX3_isBar_2 (by decide)) ?_
  refine bb_lc (sd_iload_n hx dX3_isBar_5 rfl) ?_
  refine bb_lc (sd_bipush hx dX3_isBar_6 (by decide)) ?_
  refine bb_lc (sd_iclt hx dX3_isBar_8 (by decide)) ?_
  refine bb_lc (sd_iconst hx dX3_isBar_11 (by decide)) ?_
  refine bb_lc (sd_zret hx dX3_isBar_12 hr hlk) ?_
  refine bb_lc (sd_iload_n hx dX3_isBar_13 rfl) ?_
  refine bb_lc (sd_bipush hx dX3_isBar_14 (by decide)) ?_
  refine bb_lc (sd_imul hx dX3_isBar_16) ?_
  refine bb_lc (sd_iload_n hx dX3_isBar_17 rfl) ?_
  refine bb_lc (sd_iadd hx dX3_isBar_18) ?_
  refine bb_lc (sd_istore hx dX3_isBar_19) ?_
  refine bb_lc (sd_aload_n hx dX3_isBar_21 rfl) ?_
  refine bb_lc (sd_getR (k := 3) (sl := 0) hx dX3_isBar_22 rfl (fun w h => List.mem_cons_of_mem _ (wc_3 w h)) (by decide) (by decide) (List.mem_cons_of_mem _ wd_290) (fun _ h9 => h9) rfl (fun i h => Nat.lt_of_lt_of_le h (by decide))) ?_
  refine bb_lc (sd_iload hx dX3_isBar_25) ?_
  refine bb_lc (sd_iald hx dX3_isBar_27) ?_
  refine bb_lc (sd_istore hx dX3_isBar_28) ?_
  refine bb_lc (sd_iload hx dX3_isBar_30) ?_
  refine bb_lc (sd_iload_n hx dX3_isBar_32 rfl) ?_
  refine bb_lc (sd_icge hx dX3_isBar_33 (by decide)) ?_
  refine bb_lc (sd_iload hx dX3_isBar_36) ?_
  refine bb_lc (sd_aload_n hx dX3_isBar_38 rfl) ?_
  refine bb_lc (sd_getR (k := 3) (sl := 0) hx dX3_isBar_39 rfl (fun w h => List.mem_cons_of_mem _ (wc_3 w h)) (by decide) (by decide) (List.mem_cons_of_mem _ wd_290) (fun _ h9 => h9) rfl (fun i h => Nat.lt_of_lt_of_le h (by decide))) ?_
  refine bb_lc (sd_iload hx dX3_isBar_42) ?_
  refine bb_lc (sd_iconst hx dX3_isBar_44 (by decide)) ?_
  refine bb_lc (sd_isub hx dX3_isBar_45) ?_
  refine bb_lc (sd_iald hx dX3_isBar_46) ?_
  refine bb_lc (sd_icle hx dX3_isBar_47 (by decide)) ?_
  refine bb_lc (sd_iload hx dX3_isBar_50) ?_
  refine bb_lc (sd_aload_n hx dX3_isBar_52 rfl) ?_
  refine bb_lc (sd_getR (k := 3) (sl := 0) hx dX3_isBar_53 rfl (fun w h => List.mem_cons_of_mem _ (wc_3 w h)) (by decide) (by decide) (List.mem_cons_of_mem _ wd_290) (fun _ h9 => h9) rfl (fun i h => Nat.lt_of_lt_of_le h (by decide))) ?_
  refine bb_lc (sd_iload hx dX3_isBar_56) ?_
  refine bb_lc (sd_iconst hx dX3_isBar_58 (by decide)) ?_
  refine bb_lc (sd_iadd hx dX3_isBar_59) ?_
  refine bb_lc (sd_iald hx dX3_isBar_60) ?_
  refine bb_lc (sd_icle hx dX3_isBar_61 (by decide)) ?_
  refine bb_lc (sd_iconst hx dX3_isBar_64 (by decide)) ?_
  refine bb_lc (sd_goto hx dX3_isBar_65 (by decide)) ?_
  refine bb_lc (sd_iconst hx dX3_isBar_68 (by decide)) ?_
  refine bb_lc (sd_zret hx dX3_isBar_69 hr hlk) ?_
  exact bb_ln
set_option maxRecDepth 20000 in
theorem sn_X3_isGap {p : Program} {l : Launch} {e : Env} {R : Room} {s : State} {m : MethodId} {args : Array Value} {below : List Frame} {meth : Method} {c : Code} {D : va_G} {bs : Nat → Prop} {ad : Nat → Nat → Nat} {aI aC aS : ClassId} {Rp : bb_P} {C : bb_C} (hx : bb_Cx p s m args c D bs ad aI aC aS cX3_isGap RX3 (bb_ws 52)) (hcs : bb_CS l R D bs ad aI aC aS C) (hr : meth.sig.returnType = some .boolean) (hlk : meth.locks = false) (hRf : 1 ≤ R.frames) (hRl : 36 ≤ R.locals) : ∀ pc, bb_Snd p l e R s m args below meth c D bs ad aI aC aS Rp C pc (cd_X3_isGap pc) := by
  unfold cd_X3_isGap
  refine bb_lkS (fun pc => sd_fail) ?_
  refine bb_lc (sd_iload_n hx dX3_isGap_0 rfl) ?_
  refine bb_lc (sd_iconst hx dX3_isGap_1 (by decide)) ?_
  refine bb_lc (sd_iclt hx dX3_isGap_2 (by decide)) ?_
  refine bb_lc (sd_iload_n hx dX3_isGap_5 rfl) ?_
  refine bb_lc (sd_bipush hx dX3_isGap_6 (by decide)) ?_
  refine bb_lc (sd_icge hx dX3_isGap_8 (by decide)) ?_
  refine bb_lc (sd_aload_n hx dX3_isGap_11 rfl) ?_
  refine bb_lc (sd_iload_n hx dX3_isGap_12 rfl) ?_
  refine bb_lc (sd_iload_n hx dX3_isGap_13 rfl) ?_
  refine bb_lc (sd_iload_n hx dX3_isGap_14 rfl) ?_
  refine bb_lc (sd_callv hx hcs (fun w h => List.mem_cons_of_mem _ h) dX3_isGap_15 wd_294 mV_50) ?_
  refine bb_lc (sd_ifne hx dX3_isGap_18 (by decide)) ?_
  refine bb_lc (sd_aload_n hx dX3_isGap_21 rfl) ?_
  refine bb_lc (sd_iload_n hx dX3_isGap_22 rfl) ?_
  refine bb_lc (sd_iload_n hx dX3_isGap_23 rfl) ?_
  refine bb_lc (sd_iload_n hx dX3_isGap_24 rfl) ?_
  refine bb_lc (sd_callv hx hcs (fun w h => List.mem_cons_of_mem _ h) dX3_isGap_25 wd_295 mV_51) ?_
  refine bb_lc (sd_ifeq hx dX3_isGap_28 (by decide)) ?_
  refine bb_lc (sd_iconst hx dX3_isGap_31 (by decide)) ?_
  refine bb_lc (sd_zret hx dX3_isGap_32 hr hlk) ?_
  refine bb_lc (sd_aload_n hx dX3_isGap_33 rfl) ?_
  refine bb_lc (sd_iload_n hx dX3_isGap_34 rfl) ?_
  refine bb_lc (sd_iload_n hx dX3_isGap_35 rfl) ?_
  refine bb_lc (sd_callv hx hcs (fun w h => List.mem_cons_of_mem _ h) dX3_isGap_36 wd_292 mV_44) ?_
  refine bb_lc (sd_iload hx dX3_isGap_39) ?_
  refine bb_lc (sd_iadd hx dX3_isGap_41) ?_
  refine bb_lc (sd_istore hx dX3_isGap_42) ?_
  refine bb_lc (sd_iload_n hx dX3_isGap_44 rfl) ?_
  refine bb_lc (sd_ifle hx dX3_isGap_45 (by decide)) ?_
  refine bb_lc (sd_aload_n hx dX3_isGap_48 rfl) ?_
  refine bb_lc (sd_iload_n hx dX3_isGap_49 rfl) ?_
  refine bb_lc (sd_iconst hx dX3_isGap_50 (by decide)) ?_
  refine bb_lc (sd_isub hx dX3_isGap_51) ?_
  refine bb_lc (sd_iload_n hx dX3_isGap_52 rfl) ?_
  refine bb_lc (sd_iload_n hx dX3_isGap_53 rfl) ?_
  refine bb_lc (sd_iload hx dX3_isGap_54) ?_
  refine bb_lc (sd_callv hx hcs (fun w h => List.mem_cons_of_mem _ h) dX3_isGap_56 wd_296 mV_53) ?_
  refine bb_lc (sd_ifne hx dX3_isGap_59 (by decide)) ?_
  refine bb_lc (sd_iload_n hx dX3_isGap_62 rfl) ?_
  refine bb_lc (sd_iconst hx dX3_isGap_63 (by decide)) ?_
  refine bb_lc (sd_icge hx dX3_isGap_64 (by decide)) ?_
  refine bb_lc (sd_aload_n hx dX3_isGap_67 rfl) ?_
  refine bb_lc (sd_iload_n hx dX3_isGap_68 rfl) ?_
  refine bb_lc (sd_iconst hx dX3_isGap_69 (by decide)) ?_
  refine bb_lc (sd_iadd hx dX3_isGap_70) ?_
  refine bb_lc (sd_iload_n hx dX3_isGap_71 rfl) ?_
  refine bb_lc (sd_iload_n hx dX3_isGap_72 rfl) ?_
  refine bb_lc (sd_iload hx dX3_isGap_73) ?_
  refine bb_lc (sd_callv hx hcs (fun w h => List.mem_cons_of_mem _ h) dX3_isGap_75 wd_296 mV_53) ?_
  refine bb_lc (sd_ifeq hx dX3_isGap_78 (by decide)) ?_
  refine bb_lc (sd_iconst hx dX3_isGap_81 (by decide)) ?_
  refine bb_lc (sd_goto hx dX3_isGap_82 (by decide)) ?_
  refine bb_lc (sd_iconst hx dX3_isGap_85 (by decide)) ?_
  refine bb_lc (sd_zret hx dX3_isGap_86 hr hlk) ?_
  exact bb_ln
set_option maxRecDepth 20000 in
theorem sn_X3_isBarFrom {p : Program} {l : Launch} {e : Env} {R : Room} {s : State} {m : MethodId} {args : Array Value} {below : List Frame} {meth : Method} {c : Code} {D : va_G} {bs : Nat → Prop} {ad : Nat → Nat → Nat} {aI aC aS : ClassId} {Rp : bb_P} {C : bb_C} (hx : bb_Cx p s m args c D bs ad aI aC aS cX3_isBarFrom RX3 (bb_ws 53)) (hcs : bb_CS l R D bs ad aI aC aS C) (hr : meth.sig.returnType = some .boolean) (hlk : meth.locks = false) (hRf : 1 ≤ R.frames) (hRl : 36 ≤ R.locals) : ∀ pc, bb_Snd p l e R s m args below meth c D bs ad aI aC aS Rp C pc (cd_X3_isBarFrom pc) := by
  unfold cd_X3_isBarFrom
  refine bb_lkS (fun pc => sd_fail) ?_
  refine bb_lc (sd_aload_n hx dX3_isBarFrom_0 rfl) ?_
  refine bb_lc (sd_iload_n hx dX3_isBarFrom_1 rfl) ?_
  refine bb_lc (sd_iload_n hx dX3_isBarFrom_2 rfl) ?_
  refine bb_lc (sd_callv hx hcs (fun w h => List.mem_cons_of_mem _ h) dX3_isBarFrom_3 wd_292 mV_44) ?_
  refine bb_lc (sd_iload hx dX3_isBarFrom_6) ?_
  refine bb_lc (sd_iclt hx dX3_isBarFrom_8 (by decide)) ?_
  refine bb_lc (sd_aload_n hx dX3_isBarFrom_11 rfl) ?_
  refine bb_lc (sd_iload_n hx dX3_isBarFrom_12 rfl) ?_
  refine bb_lc (sd_iload_n hx dX3_isBarFrom_13 rfl) ?_
  refine bb_lc (sd_iload_n hx dX3_isBarFrom_14 rfl) ?_
  refine bb_lc (sd_callv hx hcs (fun w h => List.mem_cons_of_mem _ h) dX3_isBarFrom_15 wd_295 mV_51) ?_
  refine bb_lc (sd_ifeq hx dX3_isBarFrom_18 (by decide)) ?_
  refine bb_lc (sd_iconst hx dX3_isBarFrom_21 (by decide)) ?_
  refine bb_lc (sd_goto hx dX3_isBarFrom_22 (by decide)) ?_
  refine bb_lc (sd_iconst hx dX3_isBarFrom_25 (by decide)) ?_
  refine bb_lc (sd_zret hx dX3_isBarFrom_26 hr hlk) ?_
  exact bb_ln
set_option maxRecDepth 20000 in
theorem sn_X3_bars {p : Program} {l : Launch} {e : Env} {R : Room} {s : State} {m : MethodId} {args : Array Value} {below : List Frame} {meth : Method} {c : Code} {D : va_G} {bs : Nat → Prop} {ad : Nat → Nat → Nat} {aI aC aS : ClassId} {Rp : bb_P} {C : bb_C} (hx : bb_Cx p s m args c D bs ad aI aC aS cX3_bars RX3 (bb_ws 54)) (hcs : bb_CS l R D bs ad aI aC aS C) (hr : meth.sig.returnType = some .int) (hlk : meth.locks = false) (hRf : 1 ≤ R.frames) (hRl : 36 ≤ R.locals) : ∀ pc, bb_Snd p l e R s m args below meth c D bs ad aI aC aS Rp C pc (cd_X3_bars pc) := by
  unfold cd_X3_bars
  refine bb_lkS (fun pc => sd_fail) ?_
  refine bb_lc (sd_iconst hx dX3_bars_0 (by decide)) ?_
  refine bb_lc (sd_istore_n hx dX3_bars_1 rfl) ?_
  refine bb_lc (sd_iconst hx dX3_bars_2 (by decide)) ?_
  refine bb_lc (sd_istore hx dX3_bars_3) ?_
  refine bb_lc (sd_iload hx dX3_bars_5) ?_
  refine bb_lc (sd_bipush hx dX3_bars_7 (by decide)) ?_
  refine bb_lc (sd_icge hx dX3_bars_9 (by decide)) ?_
  refine bb_lc (sd_aload_n hx dX3_bars_12 rfl) ?_
  refine bb_lc (sd_iload_n hx dX3_bars_13 rfl) ?_
  refine bb_lc (sd_iload hx dX3_bars_14) ?_
  refine bb_lc (sd_iload_n hx dX3_bars_16 rfl) ?_
  refine bb_lc (sd_callv hx hcs (fun w h => List.mem_cons_of_mem _ h) dX3_bars_17 wd_295 mV_51) ?_
  refine bb_lc (sd_ifeq hx dX3_bars_20 (by decide)) ?_
  refine bb_lc (sd_iload_n hx dX3_bars_23 rfl) ?_
  refine bb_lc (sd_iconst hx dX3_bars_24 (by decide)) ?_
  refine bb_lc (sd_iload hx dX3_bars_25) ?_
  refine bb_lc (sd_ishl hx dX3_bars_27) ?_
  refine bb_lc (sd_ior hx dX3_bars_28) ?_
  refine bb_lc (sd_istore_n hx dX3_bars_29 rfl) ?_
  refine bb_lc (sd_iinc hx dX3_bars_30 (by decide)) ?_
  refine bb_lc (sd_goto hx dX3_bars_33 (by decide)) ?_
  refine bb_lc (sd_iload_n hx dX3_bars_36 rfl) ?_
  refine bb_lc (sd_iret hx dX3_bars_37 hr hlk) ?_
  exact bb_ln
set_option maxRecDepth 20000 in
theorem sn_X3_gaps {p : Program} {l : Launch} {e : Env} {R : Room} {s : State} {m : MethodId} {args : Array Value} {below : List Frame} {meth : Method} {c : Code} {D : va_G} {bs : Nat → Prop} {ad : Nat → Nat → Nat} {aI aC aS : ClassId} {Rp : bb_P} {C : bb_C} (hx : bb_Cx p s m args c D bs ad aI aC aS cX3_gaps RX3 (bb_ws 55)) (hcs : bb_CS l R D bs ad aI aC aS C) (hr : meth.sig.returnType = some .int) (hlk : meth.locks = false) (hRf : 1 ≤ R.frames) (hRl : 36 ≤ R.locals) : ∀ pc, bb_Snd p l e R s m args below meth c D bs ad aI aC aS Rp C pc (cd_X3_gaps pc) := by
  unfold cd_X3_gaps
  refine bb_lkS (fun pc => sd_fail) ?_
  refine bb_lc (sd_iconst hx dX3_gaps_0 (by decide)) ?_
  refine bb_lc (sd_istore hx dX3_gaps_1) ?_
  refine bb_lc (sd_iconst hx dX3_gaps_3 (by decide)) ?_
  refine bb_lc (sd_istore hx dX3_gaps_4) ?_
  refine bb_lc (sd_iload hx dX3_gaps_6) ?_
  refine bb_lc (sd_bipush hx dX3_gaps_8 (by decide)) ?_
  refine bb_lc (sd_icge hx dX3_gaps_10 (by decide)) ?_
  refine bb_lc (sd_aload_n hx dX3_gaps_13 rfl) ?_
  refine bb_lc (sd_iload_n hx dX3_gaps_14 rfl) ?_
  refine bb_lc (sd_iload hx dX3_gaps_15) ?_
  refine bb_lc (sd_iload_n hx dX3_gaps_17 rfl) ?_
  refine bb_lc (sd_iload_n hx dX3_gaps_18 rfl) ?_
  refine bb_lc (sd_callv hx hcs (fun w h => List.mem_cons_of_mem _ h) dX3_gaps_19 wd_297 mV_52) ?_
  refine bb_lc (sd_ifeq hx dX3_gaps_22 (by decide)) ?_
  refine bb_lc (sd_iload hx dX3_gaps_25) ?_
  refine bb_lc (sd_iconst hx dX3_gaps_27 (by decide)) ?_
  refine bb_lc (sd_iload hx dX3_gaps_28) ?_
  refine bb_lc (sd_ishl hx dX3_gaps_30) ?_
  refine bb_lc (sd_ior hx dX3_gaps_31) ?_
  refine bb_lc (sd_istore hx dX3_gaps_32) ?_
  refine bb_lc (sd_iinc hx dX3_gaps_34 (by decide)) ?_
  refine bb_lc (sd_goto hx dX3_gaps_37 (by decide)) ?_
  refine bb_lc (sd_iload hx dX3_gaps_40) ?_
  refine bb_lc (sd_iret hx dX3_gaps_42 hr hlk) ?_
  exact bb_ln
set_option maxRecDepth 20000 in
theorem sn_X3_allBars {p : Program} {l : Launch} {e : Env} {R : Room} {s : State} {m : MethodId} {args : Array Value} {below : List Frame} {meth : Method} {c : Code} {D : va_G} {bs : Nat → Prop} {ad : Nat → Nat → Nat} {aI aC aS : ClassId} {Rp : bb_P} {C : bb_C} (hx : bb_Cx p s m args c D bs ad aI aC aS cX3_allBars RX3 (bb_ws 56)) (hcs : bb_CS l R D bs ad aI aC aS C) (hr : meth.sig.returnType = some .int) (hlk : meth.locks = false) (hRf : 1 ≤ R.frames) (hRl : 36 ≤ R.locals) : ∀ pc, bb_Snd p l e R s m args below meth c D bs ad aI aC aS Rp C pc (cd_X3_allBars pc) := by
  unfold cd_X3_allBars
  refine bb_lkS (fun pc => sd_fail) ?_
  refine bb_lc (sd_iconst hx dX3_allBars_0 (by decide)) ?_
  refine bb_lc (sd_istore_n hx dX3_allBars_1 rfl) ?_
  refine bb_lc (sd_iconst hx dX3_allBars_2 (by decide)) ?_
  refine bb_lc (sd_istore_n hx dX3_allBars_3 rfl) ?_
  refine bb_lc (sd_iload_n hx dX3_allBars_4 rfl) ?_
  refine bb_lc (sd_iconst hx dX3_allBars_5 (by decide)) ?_
  refine bb_lc (sd_icge hx dX3_allBars_6 (by decide)) ?_
  refine bb_lc (sd_iload_n hx dX3_allBars_9 rfl) ?_
  refine bb_lc (sd_aload_n hx dX3_allBars_10 rfl) ?_
  refine bb_lc (sd_iload_n hx dX3_allBars_11 rfl) ?_
  refine bb_lc (sd_iload_n hx dX3_allBars_12 rfl) ?_
  refine bb_lc (sd_callv hx hcs (fun w h => List.mem_cons_of_mem _ h) dX3_allBars_13 wd_298 mV_54) ?_
  refine bb_lc (sd_call hx hcs (fun w h => List.mem_cons_of_mem _ h) dX3_allBars_16 wd_299 mS_1) ?_
  refine bb_lc (sd_iadd hx dX3_allBars_19) ?_
  refine bb_lc (sd_istore_n hx dX3_allBars_20 rfl) ?_
  refine bb_lc (sd_iinc hx dX3_allBars_21 (by decide)) ?_
  refine bb_lc (sd_goto hx dX3_allBars_24 (by decide)) ?_
  refine bb_lc (sd_iload_n hx dX3_allBars_27 rfl) ?_
  refine bb_lc (sd_iret hx dX3_allBars_28 hr hlk) ?_
  exact bb_ln
set_option maxRecDepth 20000 in
theorem sn_X3_allGaps {p : Program} {l : Launch} {e : Env} {R : Room} {s : State} {m : MethodId} {args : Array Value} {below : List Frame} {meth : Method} {c : Code} {D : va_G} {bs : Nat → Prop} {ad : Nat → Nat → Nat} {aI aC aS : ClassId} {Rp : bb_P} {C : bb_C} (hx : bb_Cx p s m args c D bs ad aI aC aS cX3_allGaps RX3 (bb_ws 57)) (hcs : bb_CS l R D bs ad aI aC aS C) (hr : meth.sig.returnType = some .int) (hlk : meth.locks = false) (hRf : 1 ≤ R.frames) (hRl : 36 ≤ R.locals) : ∀ pc, bb_Snd p l e R s m args below meth c D bs ad aI aC aS Rp C pc (cd_X3_allGaps pc) := by
  unfold cd_X3_allGaps
  refine bb_lkS (fun pc => sd_fail) ?_
  refine bb_lc (sd_iconst hx dX3_allGaps_0 (by decide)) ?_
  refine bb_lc (sd_istore_n hx dX3_allGaps_1 rfl) ?_
  refine bb_lc (sd_iconst hx dX3_allGaps_2 (by decide)) ?_
  refine bb_lc (sd_istore hx dX3_allGaps_3) ?_
  refine bb_lc (sd_iload hx dX3_allGaps_5) ?_
  refine bb_lc (sd_iconst hx dX3_allGaps_7 (by decide)) ?_
  refine bb_lc (sd_icge hx dX3_allGaps_8 (by decide)) ?_
  refine bb_lc (sd_iload_n hx dX3_allGaps_11 rfl) ?_
  refine bb_lc (sd_aload_n hx dX3_allGaps_12 rfl) ?_
  refine bb_lc (sd_iload hx dX3_allGaps_13) ?_
  refine bb_lc (sd_iload_n hx dX3_allGaps_15 rfl) ?_
  refine bb_lc (sd_iload_n hx dX3_allGaps_16 rfl) ?_
  refine bb_lc (sd_callv hx hcs (fun w h => List.mem_cons_of_mem _ h) dX3_allGaps_17 wd_300 mV_55) ?_
  refine bb_lc (sd_call hx hcs (fun w h => List.mem_cons_of_mem _ h) dX3_allGaps_20 wd_299 mS_1) ?_
  refine bb_lc (sd_iadd hx dX3_allGaps_23) ?_
  refine bb_lc (sd_istore_n hx dX3_allGaps_24 rfl) ?_
  refine bb_lc (sd_iinc hx dX3_allGaps_25 (by decide)) ?_
  refine bb_lc (sd_goto hx dX3_allGaps_28 (by decide)) ?_
  refine bb_lc (sd_iload_n hx dX3_allGaps_31 rfl) ?_
  refine bb_lc (sd_iret hx dX3_allGaps_32 hr hlk) ?_
  exact bb_ln
set_option maxRecDepth 20000 in
theorem sn_X3_allDry {p : Program} {l : Launch} {e : Env} {R : Room} {s : State} {m : MethodId} {args : Array Value} {below : List Frame} {meth : Method} {c : Code} {D : va_G} {bs : Nat → Prop} {ad : Nat → Nat → Nat} {aI aC aS : ClassId} {Rp : bb_P} {C : bb_C} (hx : bb_Cx p s m args c D bs ad aI aC aS cX3_allDry RX3 (bb_ws 58)) (hcs : bb_CS l R D bs ad aI aC aS C) (hr : meth.sig.returnType = some .int) (hlk : meth.locks = false) (hRf : 1 ≤ R.frames) (hRl : 36 ≤ R.locals) : ∀ pc, bb_Snd p l e R s m args below meth c D bs ad aI aC aS Rp C pc (cd_X3_allDry pc) := by
  unfold cd_X3_allDry
  refine bb_lkS (fun pc => sd_fail) ?_
  refine bb_lc (sd_iconst hx dX3_allDry_0 (by decide)) ?_
  refine bb_lc (sd_istore_n hx dX3_allDry_1 rfl) ?_
  refine bb_lc (sd_iconst hx dX3_allDry_2 (by decide)) ?_
  refine bb_lc (sd_istore_n hx dX3_allDry_3 rfl) ?_
  refine bb_lc (sd_iload_n hx dX3_allDry_4 rfl) ?_
  refine bb_lc (sd_iconst hx dX3_allDry_5 (by decide)) ?_
  refine bb_lc (sd_icge hx dX3_allDry_6 (by decide)) ?_
  refine bb_lc (sd_iconst hx dX3_allDry_9 (by decide)) ?_
  refine bb_lc (sd_istore hx dX3_allDry_10) ?_
  refine bb_lc (sd_iload hx dX3_allDry_12) ?_
  refine bb_lc (sd_bipush hx dX3_allDry_14 (by decide)) ?_
  refine bb_lc (sd_icge hx dX3_allDry_16 (by decide)) ?_
  refine bb_lc (sd_aload_n hx dX3_allDry_19 rfl) ?_
  refine bb_lc (sd_iload_n hx dX3_allDry_20 rfl) ?_
  refine bb_lc (sd_iload hx dX3_allDry_21) ?_
  refine bb_lc (sd_iload_n hx dX3_allDry_23 rfl) ?_
  refine bb_lc (sd_callv hx hcs (fun w h => List.mem_cons_of_mem _ h) dX3_allDry_24 wd_294 mV_50) ?_
  refine bb_lc (sd_ifeq hx dX3_allDry_27 (by decide)) ?_
  refine bb_lc (sd_iinc hx dX3_allDry_30 (by decide)) ?_
  refine bb_lc (sd_iinc hx dX3_allDry_33 (by decide)) ?_
  refine bb_lc (sd_goto hx dX3_allDry_36 (by decide)) ?_
  refine bb_lc (sd_iinc hx dX3_allDry_39 (by decide)) ?_
  refine bb_lc (sd_goto hx dX3_allDry_42 (by decide)) ?_
  refine bb_lc (sd_iload_n hx dX3_allDry_45 rfl) ?_
  refine bb_lc (sd_iret hx dX3_allDry_46 hr hlk) ?_
  exact bb_ln
set_option maxRecDepth 20000 in
theorem sn_X3_lastDry {p : Program} {l : Launch} {e : Env} {R : Room} {s : State} {m : MethodId} {args : Array Value} {below : List Frame} {meth : Method} {c : Code} {D : va_G} {bs : Nat → Prop} {ad : Nat → Nat → Nat} {aI aC aS : ClassId} {Rp : bb_P} {C : bb_C} (hx : bb_Cx p s m args c D bs ad aI aC aS cX3_lastDry RX3 (bb_ws 59)) (hcs : bb_CS l R D bs ad aI aC aS C) (hr : meth.sig.returnType = some .int) (hlk : meth.locks = false) (hRf : 1 ≤ R.frames) (hRl : 36 ≤ R.locals) : ∀ pc, bb_Snd p l e R s m args below meth c D bs ad aI aC aS Rp C pc (cd_X3_lastDry pc) := by
  unfold cd_X3_lastDry
  refine bb_lkS (fun pc => sd_fail) ?_
  refine bb_lc (sd_bipush hx dX3_lastDry_0 (by decide)) ?_
  refine bb_lc (sd_istore_n hx dX3_lastDry_2 rfl) ?_
  refine bb_lc (sd_iload_n hx dX3_lastDry_3 rfl) ?_
  refine bb_lc (sd_iflt hx dX3_lastDry_4 (by decide)) ?_
  refine bb_lc (sd_aload_n hx dX3_lastDry_7 rfl) ?_
  refine bb_lc (sd_iload_n hx dX3_lastDry_8 rfl) ?_
  refine bb_lc (sd_iload_n hx dX3_lastDry_9 rfl) ?_
  refine bb_lc (sd_iload_n hx dX3_lastDry_10 rfl) ?_
  refine bb_lc (sd_callv hx hcs (fun w h => List.mem_cons_of_mem _ h) dX3_lastDry_11 wd_294 mV_50) ?_
  refine bb_lc (sd_ifeq hx dX3_lastDry_14 (by decide)) ?_
  refine bb_lc (sd_iload_n hx dX3_lastDry_17 rfl) ?_
  refine bb_lc (sd_iret hx dX3_lastDry_18 hr hlk) ?_
  refine bb_lc (sd_iinc hx dX3_lastDry_19 (by decide)) ?_
  refine bb_lc (sd_goto hx dX3_lastDry_22 (by decide)) ?_
  refine bb_lc (sd_sipush hx dX3_lastDry_25 (by decide)) ?_
  refine bb_lc (sd_iret hx dX3_lastDry_28 hr hlk) ?_
  exact bb_ln
set_option maxRecDepth 20000 in
theorem sn_X3_greatestDifference {p : Program} {l : Launch} {e : Env} {R : Room} {s : State} {m : MethodId} {args : Array Value} {below : List Frame} {meth : Method} {c : Code} {D : va_G} {bs : Nat → Prop} {ad : Nat → Nat → Nat} {aI aC aS : ClassId} {Rp : bb_P} {C : bb_C} (hx : bb_Cx p s m args c D bs ad aI aC aS cX3_greatestDifference RX3 (bb_ws 60)) (hcs : bb_CS l R D bs ad aI aC aS C) (hr : meth.sig.returnType = some .int) (hlk : meth.locks = false) (hRf : 1 ≤ R.frames) (hRl : 36 ≤ R.locals) : ∀ pc, bb_Snd p l e R s m args below meth c D bs ad aI aC aS Rp C pc (cd_X3_greatestDifference pc) := by
  unfold cd_X3_greatestDifference
  refine bb_lkS (fun pc => sd_fail) ?_
  refine bb_lc (sd_iconst hx dX3_greatestDifference_0 (by decide)) ?_
  refine bb_lc (sd_istore_n hx dX3_greatestDifference_1 rfl) ?_
  refine bb_lc (sd_iconst hx dX3_greatestDifference_2 (by decide)) ?_
  refine bb_lc (sd_istore_n hx dX3_greatestDifference_3 rfl) ?_
  refine bb_lc (sd_iload_n hx dX3_greatestDifference_4 rfl) ?_
  refine bb_lc (sd_bipush hx dX3_greatestDifference_5 (by decide)) ?_
  refine bb_lc (sd_icge hx dX3_greatestDifference_7 (by decide)) ?_
  refine bb_lc (sd_iload_n hx dX3_greatestDifference_10 rfl) ?_
  refine bb_lc (sd_aload_n hx dX3_greatestDifference_11 rfl) ?_
  refine bb_lc (sd_iload_n hx dX3_greatestDifference_12 rfl) ?_
  refine bb_lc (sd_iload_n hx dX3_greatestDifference_13 rfl) ?_
  refine bb_lc (sd_callv hx hcs (fun w h => List.mem_cons_of_mem _ h) dX3_greatestDifference_14 wd_292 mV_44) ?_
  refine bb_lc (sd_aload_n hx dX3_greatestDifference_17 rfl) ?_
  refine bb_lc (sd_iload_n hx dX3_greatestDifference_18 rfl) ?_
  refine bb_lc (sd_iload_n hx dX3_greatestDifference_19 rfl) ?_
  refine bb_lc (sd_iconst hx dX3_greatestDifference_20 (by decide)) ?_
  refine bb_lc (sd_iadd hx dX3_greatestDifference_21) ?_
  refine bb_lc (sd_callv hx hcs (fun w h => List.mem_cons_of_mem _ h) dX3_greatestDifference_22 wd_292 mV_44) ?_
  refine bb_lc (sd_isub hx dX3_greatestDifference_25) ?_
  refine bb_lc (sd_iabs hx dX3_greatestDifference_26 (List.mem_cons_of_mem _ wd_301) (List.mem_cons_of_mem _ wd_302) (List.mem_cons_of_mem _ wd_271) (List.mem_cons_of_mem _ wd_303) hRf (by omega)) ?_
  refine bb_lc (sd_imax hx dX3_greatestDifference_29 (List.mem_cons_of_mem _ wd_304) (List.mem_cons_of_mem _ wd_305) (List.mem_cons_of_mem _ wd_271) (List.mem_cons_of_mem _ wd_306) hRf (by omega)) ?_
  refine bb_lc (sd_istore_n hx dX3_greatestDifference_32 rfl) ?_
  refine bb_lc (sd_iinc hx dX3_greatestDifference_33 (by decide)) ?_
  refine bb_lc (sd_goto hx dX3_greatestDifference_36 (by decide)) ?_
  refine bb_lc (sd_iload_n hx dX3_greatestDifference_39 rfl) ?_
  refine bb_lc (sd_iret hx dX3_greatestDifference_40 hr hlk) ?_
  exact bb_ln
set_option maxRecDepth 20000 in
theorem sn_X3_highestBar {p : Program} {l : Launch} {e : Env} {R : Room} {s : State} {m : MethodId} {args : Array Value} {below : List Frame} {meth : Method} {c : Code} {D : va_G} {bs : Nat → Prop} {ad : Nat → Nat → Nat} {aI aC aS : ClassId} {Rp : bb_P} {C : bb_C} (hx : bb_Cx p s m args c D bs ad aI aC aS cX3_highestBar RX3 (bb_ws 61)) (hcs : bb_CS l R D bs ad aI aC aS C) (hr : meth.sig.returnType = some .int) (hlk : meth.locks = false) (hRf : 1 ≤ R.frames) (hRl : 36 ≤ R.locals) : ∀ pc, bb_Snd p l e R s m args below meth c D bs ad aI aC aS Rp C pc (cd_X3_highestBar pc) := by
  unfold cd_X3_highestBar
  refine bb_lkS (fun pc => sd_fail) ?_
  refine bb_lc (sd_sipush hx dX3_highestBar_0 (by decide)) ?_
  refine bb_lc (sd_istore_n hx dX3_highestBar_3 rfl) ?_
  refine bb_lc (sd_iconst hx dX3_highestBar_4 (by decide)) ?_
  refine bb_lc (sd_istore hx dX3_highestBar_5) ?_
  refine bb_lc (sd_iconst hx dX3_highestBar_7 (by decide)) ?_
  refine bb_lc (sd_istore hx dX3_highestBar_8) ?_
  refine bb_lc (sd_iload hx dX3_highestBar_10) ?_
  refine bb_lc (sd_bipush hx dX3_highestBar_12 (by decide)) ?_
  refine bb_lc (sd_icge hx dX3_highestBar_14 (by decide)) ?_
  refine bb_lc (sd_aload_n hx dX3_highestBar_17 rfl) ?_
  refine bb_lc (sd_iload_n hx dX3_highestBar_18 rfl) ?_
  refine bb_lc (sd_iload hx dX3_highestBar_19) ?_
  refine bb_lc (sd_iload_n hx dX3_highestBar_21 rfl) ?_
  refine bb_lc (sd_callv hx hcs (fun w h => List.mem_cons_of_mem _ h) dX3_highestBar_22 wd_295 mV_51) ?_
  refine bb_lc (sd_ifeq hx dX3_highestBar_25 (by decide)) ?_
  refine bb_lc (sd_aload_n hx dX3_highestBar_28 rfl) ?_
  refine bb_lc (sd_iload_n hx dX3_highestBar_29 rfl) ?_
  refine bb_lc (sd_iload hx dX3_highestBar_30) ?_
  refine bb_lc (sd_callv hx hcs (fun w h => List.mem_cons_of_mem _ h) dX3_highestBar_32 wd_292 mV_44) ?_
  refine bb_lc (sd_iload hx dX3_highestBar_35) ?_
  refine bb_lc (sd_icle hx dX3_highestBar_37 (by decide)) ?_
  refine bb_lc (sd_aload_n hx dX3_highestBar_40 rfl) ?_
  refine bb_lc (sd_iload_n hx dX3_highestBar_41 rfl) ?_
  refine bb_lc (sd_iload hx dX3_highestBar_42) ?_
  refine bb_lc (sd_callv hx hcs (fun w h => List.mem_cons_of_mem _ h) dX3_highestBar_44 wd_292 mV_44) ?_
  refine bb_lc (sd_istore hx dX3_highestBar_47) ?_
  refine bb_lc (sd_iload hx dX3_highestBar_49) ?_
  refine bb_lc (sd_istore_n hx dX3_highestBar_51 rfl) ?_
  refine bb_lc (sd_iinc hx dX3_highestBar_52 (by decide)) ?_
  refine bb_lc (sd_goto hx dX3_highestBar_55 (by decide)) ?_
  refine bb_lc (sd_iload_n hx dX3_highestBar_58 rfl) ?_
  refine bb_lc (sd_iret hx dX3_highestBar_59 hr hlk) ?_
  exact bb_ln
set_option maxRecDepth 20000 in
theorem sn_X3_scour {p : Program} {l : Launch} {e : Env} {R : Room} {s : State} {m : MethodId} {args : Array Value} {below : List Frame} {meth : Method} {c : Code} {D : va_G} {bs : Nat → Prop} {ad : Nat → Nat → Nat} {aI aC aS : ClassId} {Rp : bb_P} {C : bb_C} (hx : bb_Cx p s m args c D bs ad aI aC aS cX3_scour RX3 (bb_ws 62)) (hcs : bb_CS l R D bs ad aI aC aS C) (hr : meth.sig.returnType = some .int) (hlk : meth.locks = false) (hRf : 1 ≤ R.frames) (hRl : 36 ≤ R.locals) : ∀ pc, bb_Snd p l e R s m args below meth c D bs ad aI aC aS Rp C pc (cd_X3_scour pc) := by
  unfold cd_X3_scour
  refine bb_lkS (fun pc => sd_fail) ?_
  refine bb_lc (sd_iconst hx dX3_scour_0 (by decide)) ?_
  refine bb_lc (sd_istore_n hx dX3_scour_1 rfl) ?_
  refine bb_lc (sd_iload_n hx dX3_scour_2 rfl) ?_
  refine bb_lc (sd_iconst hx dX3_scour_3 (by decide)) ?_
  refine bb_lc (sd_icge hx dX3_scour_4 (by decide)) ?_
  refine bb_lc (sd_aload_n hx dX3_scour_7 rfl) ?_
  refine bb_lc (sd_getR (k := 3) (sl := 1) hx dX3_scour_8 rfl (fun w h => List.mem_cons_of_mem _ (wc_3 w h)) (by decide) (by decide) (List.mem_cons_of_mem _ wd_307) (fun _ h9 => h9) rfl (fun i h => Nat.lt_of_lt_of_le h (by decide))) ?_
  refine bb_lc (sd_iload_n hx dX3_scour_11 rfl) ?_
  refine bb_lc (sd_aload_n hx dX3_scour_12 rfl) ?_
  refine bb_lc (sd_iload_n hx dX3_scour_13 rfl) ?_
  refine bb_lc (sd_iload_n hx dX3_scour_14 rfl) ?_
  refine bb_lc (sd_iload_n hx dX3_scour_15 rfl) ?_
  refine bb_lc (sd_callv hx hcs (fun w h => List.mem_cons_of_mem _ h) dX3_scour_16 wd_300 mV_55) ?_
  refine bb_lc (sd_iast hx dX3_scour_19) ?_
  refine bb_lc (sd_iinc hx dX3_scour_20 (by decide)) ?_
  refine bb_lc (sd_goto hx dX3_scour_23 (by decide)) ?_
  refine bb_lc (sd_iconst hx dX3_scour_26 (by decide)) ?_
  refine bb_lc (sd_istore_n hx dX3_scour_27 rfl) ?_
  refine bb_lc (sd_iconst hx dX3_scour_28 (by decide)) ?_
  refine bb_lc (sd_istore hx dX3_scour_29) ?_
  refine bb_lc (sd_iload hx dX3_scour_31) ?_
  refine bb_lc (sd_iconst hx dX3_scour_33 (by decide)) ?_
  refine bb_lc (sd_icge hx dX3_scour_34 (by decide)) ?_
  refine bb_lc (sd_iconst hx dX3_scour_37 (by decide)) ?_
  refine bb_lc (sd_istore hx dX3_scour_38) ?_
  refine bb_lc (sd_iload hx dX3_scour_40) ?_
  refine bb_lc (sd_bipush hx dX3_scour_42 (by decide)) ?_
  refine bb_lc (sd_icge hx dX3_scour_44 (by decide)) ?_
  refine bb_lc (sd_aload_n hx dX3_scour_47 rfl) ?_
  refine bb_lc (sd_getR (k := 3) (sl := 1) hx dX3_scour_48 rfl (fun w h => List.mem_cons_of_mem _ (wc_3 w h)) (by decide) (by decide) (List.mem_cons_of_mem _ wd_307) (fun _ h9 => h9) rfl (fun i h => Nat.lt_of_lt_of_le h (by decide))) ?_
  refine bb_lc (sd_iload hx dX3_scour_51) ?_
  refine bb_lc (sd_iald hx dX3_scour_53) ?_
  refine bb_lc (sd_iload hx dX3_scour_54) ?_
  refine bb_lc (sd_ishr hx dX3_scour_56) ?_
  refine bb_lc (sd_iconst hx dX3_scour_57 (by decide)) ?_
  refine bb_lc (sd_iand hx dX3_scour_58) ?_
  refine bb_lc (sd_iconst hx dX3_scour_59 (by decide)) ?_
  refine bb_lc (sd_icne hx dX3_scour_60 (by decide)) ?_
  refine bb_lc (sd_iload_n hx dX3_scour_63 rfl) ?_
  refine bb_lc (sd_aload_n hx dX3_scour_64 rfl) ?_
  refine bb_lc (sd_iload hx dX3_scour_65) ?_
  refine bb_lc (sd_iload hx dX3_scour_67) ?_
  refine bb_lc (sd_callv hx hcs (fun w h => List.mem_cons_of_mem _ h) dX3_scour_69 wd_308 mV_63) ?_
  refine bb_lc (sd_iadd hx dX3_scour_72) ?_
  refine bb_lc (sd_istore_n hx dX3_scour_73 rfl) ?_
  refine bb_lc (sd_iinc hx dX3_scour_74 (by decide)) ?_
  refine bb_lc (sd_goto hx dX3_scour_77 (by decide)) ?_
  refine bb_lc (sd_iinc hx dX3_scour_80 (by decide)) ?_
  refine bb_lc (sd_goto hx dX3_scour_83 (by decide)) ?_
  refine bb_lc (sd_iload_n hx dX3_scour_86 rfl) ?_
  refine bb_lc (sd_iret hx dX3_scour_87 hr hlk) ?_
  exact bb_ln
set_option maxRecDepth 20000 in
theorem sn_X3_scourCell {p : Program} {l : Launch} {e : Env} {R : Room} {s : State} {m : MethodId} {args : Array Value} {below : List Frame} {meth : Method} {c : Code} {D : va_G} {bs : Nat → Prop} {ad : Nat → Nat → Nat} {aI aC aS : ClassId} {Rp : bb_P} {C : bb_C} (hx : bb_Cx p s m args c D bs ad aI aC aS cX3_scourCell RX3 (bb_ws 63)) (hcs : bb_CS l R D bs ad aI aC aS C) (hr : meth.sig.returnType = some .int) (hlk : meth.locks = false) (hRf : 1 ≤ R.frames) (hRl : 36 ≤ R.locals) : ∀ pc, bb_Snd p l e R s m args below meth c D bs ad aI aC aS Rp C pc (cd_X3_scourCell pc) := by
  unfold cd_X3_scourCell
  refine bb_lkS (fun pc => sd_fail) ?_
  refine bb_lc (sd_aload_n hx dX3_scourCell_0 rfl) ?_
  refine bb_lc (sd_iload_n hx dX3_scourCell_1 rfl) ?_
  refine bb_lc (sd_iload_n hx dX3_scourCell_2 rfl) ?_
  refine bb_lc (sd_callv hx hcs (fun w h => List.mem_cons_of_mem _ h) dX3_scourCell_3 wd_292 mV_44) ?_
  refine bb_lc (sd_ifeq hx dX3_scourCell_6 (by decide)) ?_
  refine bb_lc (sd_aload_n hx dX3_scourCell_9 rfl) ?_
  refine bb_lc (sd_iload_n hx dX3_scourCell_10 rfl) ?_
  refine bb_lc (sd_iload_n hx dX3_scourCell_11 rfl) ?_
  refine bb_lc (sd_iconst hx dX3_scourCell_12 (by decide)) ?_
  refine bb_lc (sd_iadd hx dX3_scourCell_13) ?_
  refine bb_lc (sd_callv hx hcs (fun w h => List.mem_cons_of_mem _ h) dX3_scourCell_14 wd_292 mV_44) ?_
  refine bb_lc (sd_bipush hx dX3_scourCell_17 (by decide)) ?_
  refine bb_lc (sd_iclt hx dX3_scourCell_19 (by decide)) ?_
  refine bb_lc (sd_iconst hx dX3_scourCell_22 (by decide)) ?_
  refine bb_lc (sd_iret hx dX3_scourCell_23 hr hlk) ?_
  refine bb_lc (sd_aload_n hx dX3_scourCell_24 rfl) ?_
  refine bb_lc (sd_iload_n hx dX3_scourCell_25 rfl) ?_
  refine bb_lc (sd_iload_n hx dX3_scourCell_26 rfl) ?_
  refine bb_lc (sd_iconst hx dX3_scourCell_27 (by decide)) ?_
  refine bb_lc (sd_callv hx hcs (fun w h => List.mem_cons_of_mem _ h) dX3_scourCell_28 wd_309 mV_46) ?_
  refine bb_lc (sd_aload_n hx dX3_scourCell_31 rfl) ?_
  refine bb_lc (sd_iload_n hx dX3_scourCell_32 rfl) ?_
  refine bb_lc (sd_iload_n hx dX3_scourCell_33 rfl) ?_
  refine bb_lc (sd_iconst hx dX3_scourCell_34 (by decide)) ?_
  refine bb_lc (sd_iadd hx dX3_scourCell_35) ?_
  refine bb_lc (sd_iconst hx dX3_scourCell_36 (by decide)) ?_
  refine bb_lc (sd_callv hx hcs (fun w h => List.mem_cons_of_mem _ h) dX3_scourCell_37 wd_309 mV_46) ?_
  refine bb_lc (sd_iconst hx dX3_scourCell_40 (by decide)) ?_
  refine bb_lc (sd_iret hx dX3_scourCell_41 hr hlk) ?_
  exact bb_ln
set_option maxRecDepth 20000 in
theorem sn_X3_slump {p : Program} {l : Launch} {e : Env} {R : Room} {s : State} {m : MethodId} {args : Array Value} {below : List Frame} {meth : Method} {c : Code} {D : va_G} {bs : Nat → Prop} {ad : Nat → Nat → Nat} {aI aC aS : ClassId} {Rp : bb_P} {C : bb_C} (hx : bb_Cx p s m args c D bs ad aI aC aS cX3_slump RX3 (bb_ws 64)) (hcs : bb_CS l R D bs ad aI aC aS C) (hr : meth.sig.returnType = some .int) (hlk : meth.locks = false) (hRf : 1 ≤ R.frames) (hRl : 36 ≤ R.locals) : ∀ pc, bb_Snd p l e R s m args below meth c D bs ad aI aC aS Rp C pc (cd_X3_slump pc) := by
  unfold cd_X3_slump
  refine bb_lkS (fun pc => sd_fail) ?_
  refine bb_lc (sd_iconst hx dX3_slump_0 (by decide)) ?_
  refine bb_lc (sd_istore_n hx dX3_slump_1 rfl) ?_
  refine bb_lc (sd_iconst hx dX3_slump_2 (by decide)) ?_
  refine bb_lc (sd_istore_n hx dX3_slump_3 rfl) ?_
  refine bb_lc (sd_iload_n hx dX3_slump_4 rfl) ?_
  refine bb_lc (sd_iconst hx dX3_slump_5 (by decide)) ?_
  refine bb_lc (sd_icge hx dX3_slump_6 (by decide)) ?_
  refine bb_lc (sd_iload_n hx dX3_slump_9 rfl) ?_
  refine bb_lc (sd_aload_n hx dX3_slump_10 rfl) ?_
  refine bb_lc (sd_iload_n hx dX3_slump_11 rfl) ?_
  refine bb_lc (sd_iload_n hx dX3_slump_12 rfl) ?_
  refine bb_lc (sd_callv hx hcs (fun w h => List.mem_cons_of_mem _ h) dX3_slump_13 wd_310 mV_65) ?_
  refine bb_lc (sd_iadd hx dX3_slump_16) ?_
  refine bb_lc (sd_istore_n hx dX3_slump_17 rfl) ?_
  refine bb_lc (sd_iinc hx dX3_slump_18 (by decide)) ?_
  refine bb_lc (sd_goto hx dX3_slump_21 (by decide)) ?_
  refine bb_lc (sd_iload_n hx dX3_slump_24 rfl) ?_
  refine bb_lc (sd_iret hx dX3_slump_25 hr hlk) ?_
  exact bb_ln
set_option maxRecDepth 20000 in
theorem sn_X3_slumpRow {p : Program} {l : Launch} {e : Env} {R : Room} {s : State} {m : MethodId} {args : Array Value} {below : List Frame} {meth : Method} {c : Code} {D : va_G} {bs : Nat → Prop} {ad : Nat → Nat → Nat} {aI aC aS : ClassId} {Rp : bb_P} {C : bb_C} (hx : bb_Cx p s m args c D bs ad aI aC aS cX3_slumpRow RX3 (bb_ws 65)) (hcs : bb_CS l R D bs ad aI aC aS C) (hr : meth.sig.returnType = some .int) (hlk : meth.locks = false) (hRf : 1 ≤ R.frames) (hRl : 36 ≤ R.locals) : ∀ pc, bb_Snd p l e R s m args below meth c D bs ad aI aC aS Rp C pc (cd_X3_slumpRow pc) := by
  unfold cd_X3_slumpRow
  refine bb_lkS (fun pc => sd_fail) ?_
  refine bb_lc (sd_iconst hx dX3_slumpRow_0 (by decide)) ?_
  refine bb_lc (sd_istore_n hx dX3_slumpRow_1 rfl) ?_
  refine bb_lc (sd_iconst hx dX3_slumpRow_2 (by decide)) ?_
  refine bb_lc (sd_istore hx dX3_slumpRow_3) ?_
  refine bb_lc (sd_iload hx dX3_slumpRow_5) ?_
  refine bb_lc (sd_ldc hx dX3_slumpRow_7 (List.mem_cons_of_mem _ wd_311)) ?_
  refine bb_lc (sd_icge hx dX3_slumpRow_9 (by decide)) ?_
  refine bb_lc (sd_aload_n hx dX3_slumpRow_12 rfl) ?_
  refine bb_lc (sd_iload_n hx dX3_slumpRow_13 rfl) ?_
  refine bb_lc (sd_iload_n hx dX3_slumpRow_14 rfl) ?_
  refine bb_lc (sd_callv hx hcs (fun w h => List.mem_cons_of_mem _ h) dX3_slumpRow_15 wd_312 mV_66) ?_
  refine bb_lc (sd_istore hx dX3_slumpRow_18) ?_
  refine bb_lc (sd_iload hx dX3_slumpRow_20) ?_
  refine bb_lc (sd_ifne hx dX3_slumpRow_22 (by decide)) ?_
  refine bb_lc (sd_iload_n hx dX3_slumpRow_25 rfl) ?_
  refine bb_lc (sd_iret hx dX3_slumpRow_26 hr hlk) ?_
  refine bb_lc (sd_iload_n hx dX3_slumpRow_27 rfl) ?_
  refine bb_lc (sd_iload hx dX3_slumpRow_28) ?_
  refine bb_lc (sd_iadd hx dX3_slumpRow_30) ?_
  refine bb_lc (sd_istore_n hx dX3_slumpRow_31 rfl) ?_
  refine bb_lc (sd_iinc hx dX3_slumpRow_32 (by decide)) ?_
  refine bb_lc (sd_goto hx dX3_slumpRow_35 (by decide)) ?_
  refine bb_lc (sd_iload_n hx dX3_slumpRow_38 rfl) ?_
  refine bb_lc (sd_iret hx dX3_slumpRow_39 hr hlk) ?_
  exact bb_ln
set_option maxRecDepth 20000 in
theorem sn_X3_slumpRowOnce {p : Program} {l : Launch} {e : Env} {R : Room} {s : State} {m : MethodId} {args : Array Value} {below : List Frame} {meth : Method} {c : Code} {D : va_G} {bs : Nat → Prop} {ad : Nat → Nat → Nat} {aI aC aS : ClassId} {Rp : bb_P} {C : bb_C} (hx : bb_Cx p s m args c D bs ad aI aC aS cX3_slumpRowOnce RX3 (bb_ws 66)) (hcs : bb_CS l R D bs ad aI aC aS C) (hr : meth.sig.returnType = some .int) (hlk : meth.locks = false) (hRf : 1 ≤ R.frames) (hRl : 36 ≤ R.locals) : ∀ pc, bb_Snd p l e R s m args below meth c D bs ad aI aC aS Rp C pc (cd_X3_slumpRowOnce pc) := by
  unfold cd_X3_slumpRowOnce
  refine bb_lkS (fun pc => sd_fail) ?_
  refine bb_lc (sd_iconst hx dX3_slumpRowOnce_0 (by decide)) ?_
  refine bb_lc (sd_istore_n hx dX3_slumpRowOnce_1 rfl) ?_
  refine bb_lc (sd_iconst hx dX3_slumpRowOnce_2 (by decide)) ?_
  refine bb_lc (sd_istore hx dX3_slumpRowOnce_3) ?_
  refine bb_lc (sd_iload hx dX3_slumpRowOnce_5) ?_
  refine bb_lc (sd_bipush hx dX3_slumpRowOnce_7 (by decide)) ?_
  refine bb_lc (sd_icge hx dX3_slumpRowOnce_9 (by decide)) ?_
  refine bb_lc (sd_iload_n hx dX3_slumpRowOnce_12 rfl) ?_
  refine bb_lc (sd_bipush hx dX3_slumpRowOnce_13 (by decide)) ?_
  refine bb_lc (sd_imul hx dX3_slumpRowOnce_15) ?_
  refine bb_lc (sd_iload hx dX3_slumpRowOnce_16) ?_
  refine bb_lc (sd_iadd hx dX3_slumpRowOnce_18) ?_
  refine bb_lc (sd_istore hx dX3_slumpRowOnce_19) ?_
  refine bb_lc (sd_aload_n hx dX3_slumpRowOnce_21 rfl) ?_
  refine bb_lc (sd_getR (k := 3) (sl := 0) hx dX3_slumpRowOnce_22 rfl (fun w h => List.mem_cons_of_mem _ (wc_3 w h)) (by decide) (by decide) (List.mem_cons_of_mem _ wd_290) (fun _ h9 => h9) rfl (fun i h => Nat.lt_of_lt_of_le h (by decide))) ?_
  refine bb_lc (sd_iload hx dX3_slumpRowOnce_25) ?_
  refine bb_lc (sd_iald hx dX3_slumpRowOnce_27) ?_
  refine bb_lc (sd_aload_n hx dX3_slumpRowOnce_28 rfl) ?_
  refine bb_lc (sd_getR (k := 3) (sl := 0) hx dX3_slumpRowOnce_29 rfl (fun w h => List.mem_cons_of_mem _ (wc_3 w h)) (by decide) (by decide) (List.mem_cons_of_mem _ wd_290) (fun _ h9 => h9) rfl (fun i h => Nat.lt_of_lt_of_le h (by decide))) ?_
  refine bb_lc (sd_iload hx dX3_slumpRowOnce_32) ?_
  refine bb_lc (sd_iconst hx dX3_slumpRowOnce_34 (by decide)) ?_
  refine bb_lc (sd_iadd hx dX3_slumpRowOnce_35) ?_
  refine bb_lc (sd_iald hx dX3_slumpRowOnce_36) ?_
  refine bb_lc (sd_isub hx dX3_slumpRowOnce_37) ?_
  refine bb_lc (sd_istore hx dX3_slumpRowOnce_38) ?_
  refine bb_lc (sd_iload hx dX3_slumpRowOnce_40) ?_
  refine bb_lc (sd_iload_n hx dX3_slumpRowOnce_42 rfl) ?_
  refine bb_lc (sd_icle hx dX3_slumpRowOnce_43 (by decide)) ?_
  refine bb_lc (sd_aload_n hx dX3_slumpRowOnce_46 rfl) ?_
  refine bb_lc (sd_getR (k := 3) (sl := 0) hx dX3_slumpRowOnce_47 rfl (fun w h => List.mem_cons_of_mem _ (wc_3 w h)) (by decide) (by decide) (List.mem_cons_of_mem _ wd_290) (fun _ h9 => h9) rfl (fun i h => Nat.lt_of_lt_of_le h (by decide))) ?_
  refine bb_lc (sd_iload hx dX3_slumpRowOnce_50) ?_
  refine bb_lc (sd_dup2 hx dX3_slumpRowOnce_52) ?_
  refine bb_lc (sd_iald hx dX3_slumpRowOnce_53) ?_
  refine bb_lc (sd_iconst hx dX3_slumpRowOnce_54 (by decide)) ?_
  refine bb_lc (sd_isub hx dX3_slumpRowOnce_55) ?_
  refine bb_lc (sd_iast hx dX3_slumpRowOnce_56) ?_
  refine bb_lc (sd_aload_n hx dX3_slumpRowOnce_57 rfl) ?_
  refine bb_lc (sd_getR (k := 3) (sl := 0) hx dX3_slumpRowOnce_58 rfl (fun w h => List.mem_cons_of_mem _ (wc_3 w h)) (by decide) (by decide) (List.mem_cons_of_mem _ wd_290) (fun _ h9 => h9) rfl (fun i h => Nat.lt_of_lt_of_le h (by decide))) ?_
  refine bb_lc (sd_iload hx dX3_slumpRowOnce_61) ?_
  refine bb_lc (sd_iconst hx dX3_slumpRowOnce_63 (by decide)) ?_
  refine bb_lc (sd_iadd hx dX3_slumpRowOnce_64) ?_
  refine bb_lc (sd_dup2 hx dX3_slumpRowOnce_65) ?_
  refine bb_lc (sd_iald hx dX3_slumpRowOnce_66) ?_
  refine bb_lc (sd_iconst hx dX3_slumpRowOnce_67 (by decide)) ?_
  refine bb_lc (sd_iadd hx dX3_slumpRowOnce_68) ?_
  refine bb_lc (sd_iast hx dX3_slumpRowOnce_69) ?_
  refine bb_lc (sd_iinc hx dX3_slumpRowOnce_70 (by decide)) ?_
  refine bb_lc (sd_goto hx dX3_slumpRowOnce_73 (by decide)) ?_
  refine bb_lc (sd_iload hx dX3_slumpRowOnce_76) ?_
  refine bb_lc (sd_iload_n hx dX3_slumpRowOnce_78 rfl) ?_
  refine bb_lc (sd_ineg hx dX3_slumpRowOnce_79) ?_
  refine bb_lc (sd_icge hx dX3_slumpRowOnce_80 (by decide)) ?_
  refine bb_lc (sd_aload_n hx dX3_slumpRowOnce_83 rfl) ?_
  refine bb_lc (sd_getR (k := 3) (sl := 0) hx dX3_slumpRowOnce_84 rfl (fun w h => List.mem_cons_of_mem _ (wc_3 w h)) (by decide) (by decide) (List.mem_cons_of_mem _ wd_290) (fun _ h9 => h9) rfl (fun i h => Nat.lt_of_lt_of_le h (by decide))) ?_
  refine bb_lc (sd_iload hx dX3_slumpRowOnce_87) ?_
  refine bb_lc (sd_dup2 hx dX3_slumpRowOnce_89) ?_
  refine bb_lc (sd_iald hx dX3_slumpRowOnce_90) ?_
  refine bb_lc (sd_iconst hx dX3_slumpRowOnce_91 (by decide)) ?_
  refine bb_lc (sd_iadd hx dX3_slumpRowOnce_92) ?_
  refine bb_lc (sd_iast hx dX3_slumpRowOnce_93) ?_
  refine bb_lc (sd_aload_n hx dX3_slumpRowOnce_94 rfl) ?_
  refine bb_lc (sd_getR (k := 3) (sl := 0) hx dX3_slumpRowOnce_95 rfl (fun w h => List.mem_cons_of_mem _ (wc_3 w h)) (by decide) (by decide) (List.mem_cons_of_mem _ wd_290) (fun _ h9 => h9) rfl (fun i h => Nat.lt_of_lt_of_le h (by decide))) ?_
  refine bb_lc (sd_iload hx dX3_slumpRowOnce_98) ?_
  refine bb_lc (sd_iconst hx dX3_slumpRowOnce_100 (by decide)) ?_
  refine bb_lc (sd_iadd hx dX3_slumpRowOnce_101) ?_
  refine bb_lc (sd_dup2 hx dX3_slumpRowOnce_102) ?_
  refine bb_lc (sd_iald hx dX3_slumpRowOnce_103) ?_
  refine bb_lc (sd_iconst hx dX3_slumpRowOnce_104 (by decide)) ?_
  refine bb_lc (sd_isub hx dX3_slumpRowOnce_105) ?_
  refine bb_lc (sd_iast hx dX3_slumpRowOnce_106) ?_
  refine bb_lc (sd_iinc hx dX3_slumpRowOnce_107 (by decide)) ?_
  refine bb_lc (sd_iinc hx dX3_slumpRowOnce_110 (by decide)) ?_
  refine bb_lc (sd_goto hx dX3_slumpRowOnce_113 (by decide)) ?_
  refine bb_lc (sd_iload_n hx dX3_slumpRowOnce_116 rfl) ?_
  refine bb_lc (sd_iret hx dX3_slumpRowOnce_117 hr hlk) ?_
  exact bb_ln
