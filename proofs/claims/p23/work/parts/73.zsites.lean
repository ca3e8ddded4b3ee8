/-! SITES of the law, by program (wip/p23/gen_zsites.py) -/
def z_LS (P : Nat → z_O → Prop) (L : List (Nat × z_O)) : Prop := ∀ q ∈ L, P q.1 q.2
theorem z_ln {P : Nat → z_O → Prop} : z_LS P [] := fun _ h => absurd h List.not_mem_nil
theorem z_lc {P : Nat → z_O → Prop} {pc : Nat} {o : z_O} {L : List (Nat × z_O)} (h : P pc o) (t : z_LS P L) : z_LS P ((pc, o) :: L) := List.forall_mem_cons.mpr ⟨h, t⟩
theorem z_lkS {P : Nat → z_O → Prop} (hf : ∀ pc, P pc zo_fail) : ∀ {L : List (Nat × z_O)}, z_LS P L → ∀ pc, P pc (z_lk L pc)
  | [], _, pc => hf pc
  | (q, o) :: t, h, pc => by
    unfold z_lk
    by_cases e : q = pc
    · rw [if_pos e, ← e]
      exact h (q, o) List.mem_cons_self
    · rw [if_neg e]
      exact z_lkS hf (fun v hv => h v (List.mem_cons_of_mem _ hv)) pc
set_option maxRecDepth 20000 in
theorem zw_0 : Cond.code (z_md 0).1 (z_md 0).2.1 (z_md 0).2.2.1 (z_md 0).2.2.2 ∈ bb_TB := bb_tb (i := 201) (by rfl) rfl
theorem zw_1 : Cond.initialized RL ∈ bb_TB := bb_tb (i := 13) (by decide +kernel) rfl
theorem zw_2 : Cond.static (z_md 0).1 ∈ bb_TB := bb_tb (i := 200) (by decide +kernel) rfl
theorem zmS_0 : z_mS 0 2 := ⟨⟨zw_2, zw_1, zw_0⟩, ⟨by decide +kernel, by decide +kernel, by decide +kernel⟩, by decide +kernel, by decide +kernel⟩
set_option maxRecDepth 20000 in
theorem zw_3 : Cond.code (z_md 1).1 (z_md 1).2.1 (z_md 1).2.2.1 (z_md 1).2.2.2 ∈ bb_TB := bb_tb (i := 208) (by rfl) rfl
theorem zw_4 : Cond.static (z_md 1).1 ∈ bb_TB := bb_tb (i := 207) (by decide +kernel) rfl
theorem zmS_1 : z_mS 1 2 := ⟨⟨zw_4, zw_1, zw_3⟩, ⟨by decide +kernel, by decide +kernel, by decide +kernel⟩, by decide +kernel, by decide +kernel⟩
set_option maxRecDepth 20000 in
theorem zw_5 : Cond.code (z_md 2).1 (z_md 2).2.1 (z_md 2).2.2.1 (z_md 2).2.2.2 ∈ bb_TB := bb_tb (i := 205) (by rfl) rfl
theorem zw_6 : Cond.static (z_md 2).1 ∈ bb_TB := bb_tb (i := 204) (by decide +kernel) rfl
theorem zmS_2 : z_mS 2 4 := ⟨⟨zw_6, zw_1, zw_5⟩, ⟨by decide +kernel, by decide +kernel, by decide +kernel⟩, by decide +kernel, by decide +kernel⟩
set_option maxRecDepth 20000 in
theorem zw_7 : Cond.code (z_md 3).1 (z_md 3).2.1 (z_md 3).2.2.1 (z_md 3).2.2.2 ∈ bb_TB := bb_tb (i := 456) (by rfl) rfl
theorem zw_8 : Cond.static (z_md 3).1 ∈ bb_TB := bb_tb (i := 455) (by decide +kernel) rfl
theorem zmS_3 : z_mS 3 3 := ⟨⟨zw_8, zw_1, zw_7⟩, ⟨by decide +kernel, by decide +kernel, by decide +kernel⟩, by decide +kernel, by decide +kernel⟩
set_option maxRecDepth 20000 in
theorem zw_9 : Cond.code (z_md 4).1 (z_md 4).2.1 (z_md 4).2.2.1 (z_md 4).2.2.2 ∈ bb_TB := bb_tb (i := 417) (by rfl) rfl
theorem zw_10 : Cond.static (z_md 4).1 ∈ bb_TB := bb_tb (i := 416) (by decide +kernel) rfl
theorem zmS_4 : z_mS 4 1 := ⟨⟨zw_10, zw_1, zw_9⟩, ⟨by decide +kernel, by decide +kernel, by decide +kernel⟩, by decide +kernel, by decide +kernel⟩
set_option maxRecDepth 20000 in
theorem zw_11 : Cond.code (z_md 5).1 (z_md 5).2.1 (z_md 5).2.2.1 (z_md 5).2.2.2 ∈ bb_TB := bb_tb (i := 410) (by rfl) rfl
theorem zw_12 : Cond.static (z_md 5).1 ∈ bb_TB := bb_tb (i := 409) (by decide +kernel) rfl
theorem zmS_5 : z_mS 5 4 := ⟨⟨zw_12, zw_1, zw_11⟩, ⟨by decide +kernel, by decide +kernel, by decide +kernel⟩, by decide +kernel, by decide +kernel⟩
set_option maxRecDepth 20000 in
theorem zw_13 : Cond.code (z_md 6).1 (z_md 6).2.1 (z_md 6).2.2.1 (z_md 6).2.2.2 ∈ bb_TB := bb_tb (i := 479) (by rfl) rfl
theorem zw_14 : Cond.static (z_md 6).1 ∈ bb_TB := bb_tb (i := 478) (by decide +kernel) rfl
theorem zmS_6 : z_mS 6 3 := ⟨⟨zw_14, zw_1, zw_13⟩, ⟨by decide +kernel, by decide +kernel, by decide +kernel⟩, by decide +kernel, by decide +kernel⟩
set_option maxRecDepth 20000 in
theorem zw_15 : Cond.code (z_md 7).1 (z_md 7).2.1 (z_md 7).2.2.1 (z_md 7).2.2.2 ∈ bb_TB := bb_tb (i := 525) (by rfl) rfl
theorem zw_16 : Cond.static (z_md 7).1 ∈ bb_TB := bb_tb (i := 524) (by decide +kernel) rfl
theorem zmS_7 : z_mS 7 1 := ⟨⟨zw_16, zw_1, zw_15⟩, ⟨by decide +kernel, by decide +kernel, by decide +kernel⟩, by decide +kernel, by decide +kernel⟩
theorem zw_17 : Cond.constant RL 8 (2147483647) ∈ bb_TB := bb_tb (i := 209) (by decide +kernel) rfl
theorem zw_18 : Cond.methodLink RL 9 (z_md 1).1 ∈ bb_TB := bb_tb (i := 206) (by decide +kernel) rfl
theorem zw_19 : Cond.methodLink RL 15 (bb_md (z_id 34)).1 ∈ bb_TB := bb_tb (i := 210) (by decide +kernel) rfl
theorem zw_20 : Cond.methodLink RL 21 (bb_md (z_id 23)).1 ∈ bb_TB := bb_tb (i := 280) (by decide +kernel) rfl
theorem zw_21 : Cond.methodLink RL 24 (bb_md (z_id 25)).1 ∈ bb_TB := bb_tb (i := 315) (by decide +kernel) rfl
theorem zw_22 : Cond.methodLink RL 27 (z_md 5).1 ∈ bb_TB := bb_tb (i := 408) (by decide +kernel) rfl
theorem zw_23 : Cond.methodLink RL 31 (z_md 4).1 ∈ bb_TB := bb_tb (i := 415) (by decide +kernel) rfl
theorem zw_24 : Cond.methodLink RL 35 (bb_md (z_id 28)).1 ∈ bb_TB := bb_tb (i := 418) (by decide +kernel) rfl
theorem zw_25 : Cond.methodLink RL 39 (bb_md (z_id 20)).1 ∈ bb_TB := bb_tb (i := 429) (by decide +kernel) rfl
theorem zw_26 : Cond.methodLink RL 42 (bb_md (z_id 21)).1 ∈ bb_TB := bb_tb (i := 437) (by decide +kernel) rfl
theorem zw_27 : Cond.methodLink RL 45 (bb_md (z_id 22)).1 ∈ bb_TB := bb_tb (i := 441) (by decide +kernel) rfl
theorem zw_28 : Cond.methodLink RL 48 (bb_md (z_id 26)).1 ∈ bb_TB := bb_tb (i := 449) (by decide +kernel) rfl
theorem zw_29 : Cond.methodLink RL 52 (z_md 3).1 ∈ bb_TB := bb_tb (i := 454) (by decide +kernel) rfl
theorem zw_30 : Cond.methodLink RL 56 (bb_md (z_id 27)).1 ∈ bb_TB := bb_tb (i := 457) (by decide +kernel) rfl
theorem zw_31 : Cond.methodLink RL 59 (bb_md (z_id 24)).1 ∈ bb_TB := bb_tb (i := 465) (by decide +kernel) rfl
theorem zw_32 : Cond.methodLink RL 62 (bb_md (z_id 31)).1 ∈ bb_TB := bb_tb (i := 411) (by decide +kernel) rfl
theorem zw_33 : Cond.methodLink RL 65 (bb_md (z_id 29)).1 ∈ bb_TB := bb_tb (i := 480) (by decide +kernel) rfl
theorem zw_34 : Cond.methodLink RL 68 (bb_md (z_id 32)).1 ∈ bb_TB := bb_tb (i := 509) (by decide +kernel) rfl
theorem zw_35 : Cond.methodLink RL 71 (bb_md (z_id 30)).1 ∈ bb_TB := bb_tb (i := 514) (by decide +kernel) rfl
theorem zw_36 : Cond.methodLink RL 75 (bb_md (z_id 33)).1 ∈ bb_TB := bb_tb (i := 518) (by decide +kernel) rfl
theorem zw_37 : Cond.methodLink RL 79 (z_md 0).1 ∈ bb_TB := bb_tb (i := 199) (by decide +kernel) rfl
theorem zw_38 : Cond.methodLink RL 82 (z_md 2).1 ∈ bb_TB := bb_tb (i := 203) (by decide +kernel) rfl
theorem zw_39 : Cond.methodLink RL 85 (z_md 7).1 ∈ bb_TB := bb_tb (i := 523) (by decide +kernel) rfl
theorem zw_40 : Cond.methodLink RL 88 (z_md 6).1 ∈ bb_TB := bb_tb (i := 477) (by decide +kernel) rfl
set_option maxRecDepth 20000 in
theorem zn_L_up {p : Program} {l : Launch} {e : Env} {R : Room} {s : State} {m : MethodId} {args : Array Value} {below : List Frame} {meth : Method} {c : Code} {E : z_D} {Rp : z_P} {C : z_C} (hx : z_Cx p s m args c E cL_up RL (z_ws 1)) (hcs : z_CS l R E C) (hr : meth.sig.returnType = some .int) (hlk : meth.locks = false) : ∀ pc, z_Snd p l e R s m args below meth c E 0 0 (MQ below (z_Q E Rp) args s 0 0 (z_B E)) Rp C pc (zc_L_up pc) := by
  have hT2 : ∀ w ∈ bb_TB, w ∈ z_ws 1 := fun w h => List.mem_cons_of_mem _ h
  unfold zc_L_up
  refine z_lkS (fun pc => zd_fail) ?_
  refine z_lc (zd_iload_n hx dL_up_0 rfl) ?_
  refine z_lc (zd_ldc hx dL_up_1 (hT2 _ zw_17)) ?_
  refine z_lc (zd_iand hx dL_up_3) ?_
  refine z_lc (zd_iload_n hx dL_up_4 rfl) ?_
  refine z_lc (zd_irem hx dL_up_5) ?_
  refine z_lc (zd_iret hx dL_up_6 hr hlk) ?_
  exact z_ln
set_option maxRecDepth 20000 in
theorem zn_L_isStep {p : Program} {l : Launch} {e : Env} {R : Room} {s : State} {m : MethodId} {args : Array Value} {below : List Frame} {meth : Method} {c : Code} {E : z_D} {Rp : z_P} {C : z_C} (hx : z_Cx p s m args c E cL_isStep RL (z_ws 2)) (hcs : z_CS l R E C) (hr : meth.sig.returnType = some .boolean) (hlk : meth.locks = false) : ∀ pc, z_Snd p l e R s m args below meth c E 0 0 (MQ below (z_Q E Rp) args s 0 0 (z_B E)) Rp C pc (zc_L_isStep pc) := by
  have hT2 : ∀ w ∈ bb_TB, w ∈ z_ws 2 := fun w h => List.mem_cons_of_mem _ h
  unfold zc_L_isStep
  refine z_lkS (fun pc => zd_fail) ?_
  refine z_lc (zd_iload_n hx dL_isStep_0 rfl) ?_
  refine z_lc (zd_iconst hx dL_isStep_1 (by decide)) ?_
  refine z_lc (zd_ishr hx dL_isStep_2) ?_
  refine z_lc (zd_istore hx dL_isStep_3) ?_
  refine z_lc (zd_iload hx dL_isStep_5) ?_
  refine z_lc (zd_iconst hx dL_isStep_7 (by decide)) ?_
  refine z_lc (zd_call hx hcs hT2 (Nat.zero_le _) (Nat.zero_le _) dL_isStep_8 zw_18 zmS_1 (by decide)) ?_
  refine z_lc (zd_istore hx dL_isStep_11) ?_
  refine z_lc (zd_aload_n hx dL_isStep_13 rfl) ?_
  refine z_lc (zd_bipush hx dL_isStep_14 (by decide)) ?_
  refine z_lc (zd_callv hx hcs hT2 (Nat.zero_le _) (Nat.zero_le _) (by decide) dL_isStep_16 zw_19) ?_
  refine z_lc (zd_istore hx dL_isStep_19) ?_
  refine z_lc (zd_aload_n hx dL_isStep_21 rfl) ?_
  refine z_lc (zd_iconst hx dL_isStep_22 (by decide)) ?_
  refine z_lc (zd_callv hx hcs hT2 (Nat.zero_le _) (Nat.zero_le _) (by decide) dL_isStep_23 zw_19) ?_
  refine z_lc (zd_istore hx dL_isStep_26) ?_
  refine z_lc (zd_iload_n hx dL_isStep_28 rfl) ?_
  refine z_lc (zd_bipush hx dL_isStep_29 (by decide)) ?_
  refine z_lc (zd_call hx hcs hT2 (Nat.zero_le _) (Nat.zero_le _) dL_isStep_31 zw_18 zmS_1 (by decide)) ?_
  refine z_lc (zd_tsw hx dL_isStep_34 (by decide) (by decide) (by decide)) ?_
  refine z_lc (zd_iconst hx dL_isStep_104 (by decide)) ?_
  refine z_lc (zd_iload_n hx dL_isStep_105 rfl) ?_
  refine z_lc (zd_bipush hx dL_isStep_106 (by decide)) ?_
  refine z_lc (zd_call hx hcs hT2 (Nat.zero_le _) (Nat.zero_le _) dL_isStep_108 zw_18 zmS_1 (by decide)) ?_
  refine z_lc (zd_iadd hx dL_isStep_111) ?_
  refine z_lc (zd_istore hx dL_isStep_112) ?_
  refine z_lc (zd_aload_n hx dL_isStep_114 rfl) ?_
  refine z_lc (zd_iload hx dL_isStep_115) ?_
  refine z_lc (zd_iload hx dL_isStep_117) ?_
  refine z_lc (zd_callv hx hcs hT2 (Nat.zero_le _) (Nat.zero_le _) (by decide) dL_isStep_119 zw_20) ?_
  refine z_lc (zd_istore hx dL_isStep_122) ?_
  refine z_lc (zd_iload hx dL_isStep_124) ?_
  refine z_lc (zd_aload_n hx dL_isStep_126 rfl) ?_
  refine z_lc (zd_iconst hx dL_isStep_127 (by decide)) ?_
  refine z_lc (zd_iload hx dL_isStep_128) ?_
  refine z_lc (zd_isub hx dL_isStep_130) ?_
  refine z_lc (zd_iload hx dL_isStep_131) ?_
  refine z_lc (zd_callv hx hcs hT2 (Nat.zero_le _) (Nat.zero_le _) (by decide) dL_isStep_133 zw_20) ?_
  refine z_lc (zd_icne hx dL_isStep_136 (by decide)) ?_
  refine z_lc (zd_iload hx dL_isStep_139) ?_
  refine z_lc (zd_iload hx dL_isStep_141) ?_
  refine z_lc (zd_bipush hx dL_isStep_143 (by decide)) ?_
  refine z_lc (zd_icne hx dL_isStep_145 (by decide)) ?_
  refine z_lc (zd_sipush hx dL_isStep_148 (by decide)) ?_
  refine z_lc (zd_goto hx dL_isStep_151 (by decide)) ?_
  refine z_lc (zd_iload hx dL_isStep_154) ?_
  refine z_lc (zd_iconst hx dL_isStep_156 (by decide)) ?_
  refine z_lc (zd_iadd hx dL_isStep_157) ?_
  refine z_lc (zd_icne hx dL_isStep_158 (by decide)) ?_
  refine z_lc (zd_aload_n hx dL_isStep_161 rfl) ?_
  refine z_lc (zd_iconst hx dL_isStep_162 (by decide)) ?_
  refine z_lc (zd_callv hx hcs hT2 (Nat.zero_le _) (Nat.zero_le _) (by decide) dL_isStep_163 zw_19) ?_
  refine z_lc (zd_iload hx dL_isStep_166) ?_
  refine z_lc (zd_icne hx dL_isStep_168 (by decide)) ?_
  refine z_lc (zd_iconst hx dL_isStep_171 (by decide)) ?_
  refine z_lc (zd_goto hx dL_isStep_172 (by decide)) ?_
  refine z_lc (zd_iconst hx dL_isStep_175 (by decide)) ?_
  refine z_lc (zd_zret hx dL_isStep_176 hr hlk) ?_
  refine z_lc (zd_iload_n hx dL_isStep_177 rfl) ?_
  refine z_lc (zd_iconst hx dL_isStep_178 (by decide)) ?_
  refine z_lc (zd_call hx hcs hT2 (Nat.zero_le _) (Nat.zero_le _) dL_isStep_179 zw_18 zmS_1 (by decide)) ?_
  refine z_lc (zd_ifne hx dL_isStep_182 (by decide)) ?_
  refine z_lc (zd_iload_n hx dL_isStep_185 rfl) ?_
  refine z_lc (zd_iconst hx dL_isStep_186 (by decide)) ?_
  refine z_lc (zd_ishr hx dL_isStep_187) ?_
  refine z_lc (zd_bipush hx dL_isStep_188 (by decide)) ?_
  refine z_lc (zd_call hx hcs hT2 (Nat.zero_le _) (Nat.zero_le _) dL_isStep_190 zw_18 zmS_1 (by decide)) ?_
  refine z_lc (zd_goto hx dL_isStep_193 (by decide)) ?_
  refine z_lc (zd_iconst hx dL_isStep_196 (by decide)) ?_
  refine z_lc (zd_istore hx dL_isStep_197) ?_
  refine z_lc (zd_aload_n hx dL_isStep_199 rfl) ?_
  refine z_lc (zd_bipush hx dL_isStep_200 (by decide)) ?_
  refine z_lc (zd_callv hx hcs hT2 (Nat.zero_le _) (Nat.zero_le _) (by decide) dL_isStep_202 zw_19) ?_
  refine z_lc (zd_istore hx dL_isStep_205) ?_
  refine z_lc (zd_aload_n hx dL_isStep_207 rfl) ?_
  refine z_lc (zd_iconst hx dL_isStep_208 (by decide)) ?_
  refine z_lc (zd_callv hx hcs hT2 (Nat.zero_le _) (Nat.zero_le _) (by decide) dL_isStep_209 zw_19) ?_
  refine z_lc (zd_istore hx dL_isStep_212) ?_
  refine z_lc (zd_aload_n hx dL_isStep_214 rfl) ?_
  refine z_lc (zd_iload hx dL_isStep_215) ?_
  refine z_lc (zd_callv hx hcs hT2 (Nat.zero_le _) (Nat.zero_le _) (by decide) dL_isStep_217 zw_21) ?_
  refine z_lc (zd_istore hx dL_isStep_220) ?_
  refine z_lc (zd_iload hx dL_isStep_222) ?_
  refine z_lc (zd_aload_n hx dL_isStep_224 rfl) ?_
  refine z_lc (zd_iload hx dL_isStep_225) ?_
  refine z_lc (zd_callv hx hcs hT2 (Nat.zero_le _) (Nat.zero_le _) (by decide) dL_isStep_227 zw_21) ?_
  refine z_lc (zd_icne hx dL_isStep_230 (by decide)) ?_
  refine z_lc (zd_iload hx dL_isStep_233) ?_
  refine z_lc (zd_ifne hx dL_isStep_235 (by decide)) ?_
  refine z_lc (zd_iload hx dL_isStep_238) ?_
  refine z_lc (zd_sipush hx dL_isStep_240 (by decide)) ?_
  refine z_lc (zd_icne hx dL_isStep_243 (by decide)) ?_
  refine z_lc (zd_goto hx dL_isStep_246 (by decide)) ?_
  refine z_lc (zd_iload hx dL_isStep_249) ?_
  refine z_lc (zd_aload_n hx dL_isStep_251 rfl) ?_
  refine z_lc (zd_bipush hx dL_isStep_252 (by decide)) ?_
  refine z_lc (zd_callv hx hcs hT2 (Nat.zero_le _) (Nat.zero_le _) (by decide) dL_isStep_254 zw_19) ?_
  refine z_lc (zd_iload hx dL_isStep_257) ?_
  refine z_lc (zd_isub hx dL_isStep_259) ?_
  refine z_lc (zd_icne hx dL_isStep_260 (by decide)) ?_
  refine z_lc (zd_aload_n hx dL_isStep_263 rfl) ?_
  refine z_lc (zd_iconst hx dL_isStep_264 (by decide)) ?_
  refine z_lc (zd_callv hx hcs hT2 (Nat.zero_le _) (Nat.zero_le _) (by decide) dL_isStep_265 zw_19) ?_
  refine z_lc (zd_iload hx dL_isStep_268) ?_
  refine z_lc (zd_iload hx dL_isStep_270) ?_
  refine z_lc (zd_iadd hx dL_isStep_272) ?_
  refine z_lc (zd_icne hx dL_isStep_273 (by decide)) ?_
  refine z_lc (zd_aload_n hx dL_isStep_276 rfl) ?_
  refine z_lc (zd_bipush hx dL_isStep_277 (by decide)) ?_
  refine z_lc (zd_callv hx hcs hT2 (Nat.zero_le _) (Nat.zero_le _) (by decide) dL_isStep_279 zw_19) ?_
  refine z_lc (zd_ifne hx dL_isStep_282 (by decide)) ?_
  refine z_lc (zd_aload_n hx dL_isStep_285 rfl) ?_
  refine z_lc (zd_aload_n hx dL_isStep_286 rfl) ?_
  refine z_lc (zd_iload hx dL_isStep_287) ?_
  refine z_lc (zd_iload hx dL_isStep_289) ?_
  refine z_lc (zd_call hx hcs hT2 (Nat.zero_le _) (Nat.zero_le _) dL_isStep_291 zw_22 zmS_5 (by decide)) ?_
  refine z_lc (zd_ifeq hx dL_isStep_294 (by decide)) ?_
  refine z_lc (zd_aload_n hx dL_isStep_297 rfl) ?_
  refine z_lc (zd_call hx hcs hT2 (Nat.zero_le _) (Nat.zero_le _) dL_isStep_298 zw_23 zmS_4 (by decide)) ?_
  refine z_lc (zd_ifeq hx dL_isStep_301 (by decide)) ?_
  refine z_lc (zd_iconst hx dL_isStep_304 (by decide)) ?_
  refine z_lc (zd_goto hx dL_isStep_305 (by decide)) ?_
  refine z_lc (zd_iconst hx dL_isStep_308 (by decide)) ?_
  refine z_lc (zd_zret hx dL_isStep_309 hr hlk) ?_
  refine z_lc (zd_iload hx dL_isStep_310) ?_
  refine z_lc (zd_iconst hx dL_isStep_312 (by decide)) ?_
  refine z_lc (zd_ishr hx dL_isStep_313) ?_
  refine z_lc (zd_bipush hx dL_isStep_314 (by decide)) ?_
  refine z_lc (zd_call hx hcs hT2 (Nat.zero_le _) (Nat.zero_le _) dL_isStep_316 zw_18 zmS_1 (by decide)) ?_
  refine z_lc (zd_istore hx dL_isStep_319) ?_
  refine z_lc (zd_aload_n hx dL_isStep_321 rfl) ?_
  refine z_lc (zd_iload hx dL_isStep_322) ?_
  refine z_lc (zd_iload hx dL_isStep_324) ?_
  refine z_lc (zd_iconst hx dL_isStep_326 (by decide)) ?_
  refine z_lc (zd_callv hx hcs hT2 (Nat.zero_le _) (Nat.zero_le _) (by decide) dL_isStep_327 zw_24) ?_
  refine z_lc (zd_istore hx dL_isStep_330) ?_
  refine z_lc (zd_iload_n hx dL_isStep_332 rfl) ?_
  refine z_lc (zd_iconst hx dL_isStep_333 (by decide)) ?_
  refine z_lc (zd_call hx hcs hT2 (Nat.zero_le _) (Nat.zero_le _) dL_isStep_334 zw_18 zmS_1 (by decide)) ?_
  refine z_lc (zd_ifne hx dL_isStep_337 (by decide)) ?_
  refine z_lc (zd_iload_n hx dL_isStep_340 rfl) ?_
  refine z_lc (zd_iconst hx dL_isStep_341 (by decide)) ?_
  refine z_lc (zd_ishr hx dL_isStep_342) ?_
  refine z_lc (zd_bipush hx dL_isStep_343 (by decide)) ?_
  refine z_lc (zd_call hx hcs hT2 (Nat.zero_le _) (Nat.zero_le _) dL_isStep_345 zw_18 zmS_1 (by decide)) ?_
  refine z_lc (zd_goto hx dL_isStep_348 (by decide)) ?_
  refine z_lc (zd_iload hx dL_isStep_351) ?_
  refine z_lc (zd_iload_n hx dL_isStep_353 rfl) ?_
  refine z_lc (zd_iconst hx dL_isStep_354 (by decide)) ?_
  refine z_lc (zd_ishr hx dL_isStep_355) ?_
  refine z_lc (zd_bipush hx dL_isStep_356 (by decide)) ?_
  refine z_lc (zd_call hx hcs hT2 (Nat.zero_le _) (Nat.zero_le _) dL_isStep_358 zw_18 zmS_1 (by decide)) ?_
  refine z_lc (zd_iadd hx dL_isStep_361) ?_
  refine z_lc (zd_bipush hx dL_isStep_362 (by decide)) ?_
  refine z_lc (zd_isub hx dL_isStep_364) ?_
  refine z_lc (zd_istore hx dL_isStep_365) ?_
  refine z_lc (zd_aload_n hx dL_isStep_367 rfl) ?_
  refine z_lc (zd_iload hx dL_isStep_368) ?_
  refine z_lc (zd_iload hx dL_isStep_370) ?_
  refine z_lc (zd_iload hx dL_isStep_372) ?_
  refine z_lc (zd_callv hx hcs hT2 (Nat.zero_le _) (Nat.zero_le _) (by decide) dL_isStep_374 zw_25) ?_
  refine z_lc (zd_istore hx dL_isStep_377) ?_
  refine z_lc (zd_iload hx dL_isStep_379) ?_
  refine z_lc (zd_iflt hx dL_isStep_381 (by decide)) ?_
  refine z_lc (zd_iload hx dL_isStep_384) ?_
  refine z_lc (zd_bipush hx dL_isStep_386 (by decide)) ?_
  refine z_lc (zd_icge hx dL_isStep_388 (by decide)) ?_
  refine z_lc (zd_iconst hx dL_isStep_391 (by decide)) ?_
  refine z_lc (zd_goto hx dL_isStep_392 (by decide)) ?_
  refine z_lc (zd_iconst hx dL_isStep_395 (by decide)) ?_
  refine z_lc (zd_istore hx dL_isStep_396) ?_
  refine z_lc (zd_iload hx dL_isStep_398) ?_
  refine z_lc (zd_aload_n hx dL_isStep_400 rfl) ?_
  refine z_lc (zd_iconst hx dL_isStep_401 (by decide)) ?_
  refine z_lc (zd_iload hx dL_isStep_402) ?_
  refine z_lc (zd_isub hx dL_isStep_404) ?_
  refine z_lc (zd_iload hx dL_isStep_405) ?_
  refine z_lc (zd_iload hx dL_isStep_407) ?_
  refine z_lc (zd_callv hx hcs hT2 (Nat.zero_le _) (Nat.zero_le _) (by decide) dL_isStep_409 zw_25) ?_
  refine z_lc (zd_icne hx dL_isStep_412 (by decide)) ?_
  refine z_lc (zd_iload hx dL_isStep_415) ?_
  refine z_lc (zd_iload hx dL_isStep_417) ?_
  refine z_lc (zd_ifne hx dL_isStep_419 (by decide)) ?_
  refine z_lc (zd_sipush hx dL_isStep_422 (by decide)) ?_
  refine z_lc (zd_goto hx dL_isStep_425 (by decide)) ?_
  refine z_lc (zd_iload hx dL_isStep_428) ?_
  refine z_lc (zd_iload hx dL_isStep_430) ?_
  refine z_lc (zd_icne hx dL_isStep_432 (by decide)) ?_
  refine z_lc (zd_sipush hx dL_isStep_435 (by decide)) ?_
  refine z_lc (zd_goto hx dL_isStep_438 (by decide)) ?_
  refine z_lc (zd_iload hx dL_isStep_441) ?_
  refine z_lc (zd_icne hx dL_isStep_443 (by decide)) ?_
  refine z_lc (zd_aload_n hx dL_isStep_446 rfl) ?_
  refine z_lc (zd_iconst hx dL_isStep_447 (by decide)) ?_
  refine z_lc (zd_callv hx hcs hT2 (Nat.zero_le _) (Nat.zero_le _) (by decide) dL_isStep_448 zw_19) ?_
  refine z_lc (zd_iload hx dL_isStep_451) ?_
  refine z_lc (zd_ifeq hx dL_isStep_453 (by decide)) ?_
  refine z_lc (zd_iload hx dL_isStep_456) ?_
  refine z_lc (zd_iload hx dL_isStep_458) ?_
  refine z_lc (zd_iadd hx dL_isStep_460) ?_
  refine z_lc (zd_iload hx dL_isStep_461) ?_
  refine z_lc (zd_isub hx dL_isStep_463) ?_
  refine z_lc (zd_goto hx dL_isStep_464 (by decide)) ?_
  refine z_lc (zd_iload hx dL_isStep_467) ?_
  refine z_lc (zd_icne hx dL_isStep_469 (by decide)) ?_
  refine z_lc (zd_aload_n hx dL_isStep_472 rfl) ?_
  refine z_lc (zd_call hx hcs hT2 (Nat.zero_le _) (Nat.zero_le _) dL_isStep_473 zw_23 zmS_4 (by decide)) ?_
  refine z_lc (zd_ifeq hx dL_isStep_476 (by decide)) ?_
  refine z_lc (zd_iconst hx dL_isStep_479 (by decide)) ?_
  refine z_lc (zd_goto hx dL_isStep_480 (by decide)) ?_
  refine z_lc (zd_iconst hx dL_isStep_483 (by decide)) ?_
  refine z_lc (zd_zret hx dL_isStep_484 hr hlk) ?_
  refine z_lc (zd_iload_n hx dL_isStep_485 rfl) ?_
  refine z_lc (zd_iconst hx dL_isStep_486 (by decide)) ?_
  refine z_lc (zd_call hx hcs hT2 (Nat.zero_le _) (Nat.zero_le _) dL_isStep_487 zw_18 zmS_1 (by decide)) ?_
  refine z_lc (zd_ifne hx dL_isStep_490 (by decide)) ?_
  refine z_lc (zd_bipush hx dL_isStep_493 (by decide)) ?_
  refine z_lc (zd_iload_n hx dL_isStep_495 rfl) ?_
  refine z_lc (zd_iconst hx dL_isStep_496 (by decide)) ?_
  refine z_lc (zd_ishr hx dL_isStep_497) ?_
  refine z_lc (zd_bipush hx dL_isStep_498 (by decide)) ?_
  refine z_lc (zd_call hx hcs hT2 (Nat.zero_le _) (Nat.zero_le _) dL_isStep_500 zw_18 zmS_1 (by decide)) ?_
  refine z_lc (zd_iadd hx dL_isStep_503) ?_
  refine z_lc (zd_goto hx dL_isStep_504 (by decide)) ?_
  refine z_lc (zd_bipush hx dL_isStep_507 (by decide)) ?_
  refine z_lc (zd_iload_n hx dL_isStep_509 rfl) ?_
  refine z_lc (zd_iconst hx dL_isStep_510 (by decide)) ?_
  refine z_lc (zd_ishr hx dL_isStep_511) ?_
  refine z_lc (zd_bipush hx dL_isStep_512 (by decide)) ?_
  refine z_lc (zd_call hx hcs hT2 (Nat.zero_le _) (Nat.zero_le _) dL_isStep_514 zw_18 zmS_1 (by decide)) ?_
  refine z_lc (zd_iadd hx dL_isStep_517) ?_
  refine z_lc (zd_istore hx dL_isStep_518) ?_
  refine z_lc (zd_aload_n hx dL_isStep_520 rfl) ?_
  refine z_lc (zd_bipush hx dL_isStep_521 (by decide)) ?_
  refine z_lc (zd_callv hx hcs hT2 (Nat.zero_le _) (Nat.zero_le _) (by decide) dL_isStep_523 zw_19) ?_
  refine z_lc (zd_istore hx dL_isStep_526) ?_
  refine z_lc (zd_aload_n hx dL_isStep_528 rfl) ?_
  refine z_lc (zd_bipush hx dL_isStep_529 (by decide)) ?_
  refine z_lc (zd_callv hx hcs hT2 (Nat.zero_le _) (Nat.zero_le _) (by decide) dL_isStep_531 zw_19) ?_
  refine z_lc (zd_istore hx dL_isStep_534) ?_
  refine z_lc (zd_aload_n hx dL_isStep_536 rfl) ?_
  refine z_lc (zd_iload hx dL_isStep_537) ?_
  refine z_lc (zd_callv hx hcs hT2 (Nat.zero_le _) (Nat.zero_le _) (by decide) dL_isStep_539 zw_26) ?_
  refine z_lc (zd_istore hx dL_isStep_542) ?_
  refine z_lc (zd_iload hx dL_isStep_544) ?_
  refine z_lc (zd_aload_n hx dL_isStep_546 rfl) ?_
  refine z_lc (zd_iload hx dL_isStep_547) ?_
  refine z_lc (zd_callv hx hcs hT2 (Nat.zero_le _) (Nat.zero_le _) (by decide) dL_isStep_549 zw_26) ?_
  refine z_lc (zd_icne hx dL_isStep_552 (by decide)) ?_
  refine z_lc (zd_iload hx dL_isStep_555) ?_
  refine z_lc (zd_iload hx dL_isStep_557) ?_
  refine z_lc (zd_iload hx dL_isStep_559) ?_
  refine z_lc (zd_icne hx dL_isStep_561 (by decide)) ?_
  refine z_lc (zd_sipush hx dL_isStep_564 (by decide)) ?_
  refine z_lc (zd_goto hx dL_isStep_567 (by decide)) ?_
  refine z_lc (zd_iload hx dL_isStep_570) ?_
  refine z_lc (zd_icne hx dL_isStep_572 (by decide)) ?_
  refine z_lc (zd_iload hx dL_isStep_575) ?_
  refine z_lc (zd_iload hx dL_isStep_577) ?_
  refine z_lc (zd_iclt hx dL_isStep_579 (by decide)) ?_
  refine z_lc (zd_aload_n hx dL_isStep_582 rfl) ?_
  refine z_lc (zd_bipush hx dL_isStep_583 (by decide)) ?_
  refine z_lc (zd_callv hx hcs hT2 (Nat.zero_le _) (Nat.zero_le _) (by decide) dL_isStep_585 zw_19) ?_
  refine z_lc (zd_iload hx dL_isStep_588) ?_
  refine z_lc (zd_icgt hx dL_isStep_590 (by decide)) ?_
  refine z_lc (zd_iload hx dL_isStep_593) ?_
  refine z_lc (zd_iload hx dL_isStep_595) ?_
  refine z_lc (zd_icgt hx dL_isStep_597 (by decide)) ?_
  refine z_lc (zd_aload_n hx dL_isStep_600 rfl) ?_
  refine z_lc (zd_bipush hx dL_isStep_601 (by decide)) ?_
  refine z_lc (zd_callv hx hcs hT2 (Nat.zero_le _) (Nat.zero_le _) (by decide) dL_isStep_603 zw_19) ?_
  refine z_lc (zd_iload hx dL_isStep_606) ?_
  refine z_lc (zd_iclt hx dL_isStep_608 (by decide)) ?_
  refine z_lc (zd_iconst hx dL_isStep_611 (by decide)) ?_
  refine z_lc (zd_goto hx dL_isStep_612 (by decide)) ?_
  refine z_lc (zd_iconst hx dL_isStep_615 (by decide)) ?_
  refine z_lc (zd_zret hx dL_isStep_616 hr hlk) ?_
  refine z_lc (zd_iload hx dL_isStep_617) ?_
  refine z_lc (zd_iconst hx dL_isStep_619 (by decide)) ?_
  refine z_lc (zd_call hx hcs hT2 (Nat.zero_le _) (Nat.zero_le _) dL_isStep_620 zw_18 zmS_1 (by decide)) ?_
  refine z_lc (zd_istore hx dL_isStep_623) ?_
  refine z_lc (zd_iload hx dL_isStep_625) ?_
  refine z_lc (zd_ifeq hx dL_isStep_627 (by decide)) ?_
  refine z_lc (zd_iload hx dL_isStep_630) ?_
  refine z_lc (zd_iconst hx dL_isStep_632 (by decide)) ?_
  refine z_lc (zd_icne hx dL_isStep_633 (by decide)) ?_
  refine z_lc (zd_iconst hx dL_isStep_636 (by decide)) ?_
  refine z_lc (zd_iload_n hx dL_isStep_637 rfl) ?_
  refine z_lc (zd_bipush hx dL_isStep_638 (by decide)) ?_
  refine z_lc (zd_call hx hcs hT2 (Nat.zero_le _) (Nat.zero_le _) dL_isStep_640 zw_18 zmS_1 (by decide)) ?_
  refine z_lc (zd_iadd hx dL_isStep_643) ?_
  refine z_lc (zd_goto hx dL_isStep_644 (by decide)) ?_
  refine z_lc (zd_iload hx dL_isStep_647) ?_
  refine z_lc (zd_iconst hx dL_isStep_649 (by decide)) ?_
  refine z_lc (zd_icne hx dL_isStep_650 (by decide)) ?_
  refine z_lc (zd_iload_n hx dL_isStep_653 rfl) ?_
  refine z_lc (zd_iconst hx dL_isStep_654 (by decide)) ?_
  refine z_lc (zd_call hx hcs hT2 (Nat.zero_le _) (Nat.zero_le _) dL_isStep_655 zw_18 zmS_1 (by decide)) ?_
  refine z_lc (zd_goto hx dL_isStep_658 (by decide)) ?_
  refine z_lc (zd_iconst hx dL_isStep_661 (by decide)) ?_
  refine z_lc (zd_iload_n hx dL_isStep_662 rfl) ?_
  refine z_lc (zd_bipush hx dL_isStep_663 (by decide)) ?_
  refine z_lc (zd_call hx hcs hT2 (Nat.zero_le _) (Nat.zero_le _) dL_isStep_665 zw_18 zmS_1 (by decide)) ?_
  refine z_lc (zd_iadd hx dL_isStep_668) ?_
  refine z_lc (zd_istore hx dL_isStep_669) ?_
  refine z_lc (zd_aload_n hx dL_isStep_671 rfl) ?_
  refine z_lc (zd_iload hx dL_isStep_672) ?_
  refine z_lc (zd_iload hx dL_isStep_674) ?_
  refine z_lc (zd_callv hx hcs hT2 (Nat.zero_le _) (Nat.zero_le _) (by decide) dL_isStep_676 zw_27) ?_
  refine z_lc (zd_aload_n hx dL_isStep_679 rfl) ?_
  refine z_lc (zd_iload hx dL_isStep_680) ?_
  refine z_lc (zd_iload hx dL_isStep_682) ?_
  refine z_lc (zd_callv hx hcs hT2 (Nat.zero_le _) (Nat.zero_le _) (by decide) dL_isStep_684 zw_27) ?_
  refine z_lc (zd_icne hx dL_isStep_687 (by decide)) ?_
  refine z_lc (zd_aload_n hx dL_isStep_690 rfl) ?_
  refine z_lc (zd_bipush hx dL_isStep_691 (by decide)) ?_
  refine z_lc (zd_iload hx dL_isStep_693) ?_
  refine z_lc (zd_iadd hx dL_isStep_695) ?_
  refine z_lc (zd_callv hx hcs hT2 (Nat.zero_le _) (Nat.zero_le _) (by decide) dL_isStep_696 zw_19) ?_
  refine z_lc (zd_iload hx dL_isStep_699) ?_
  refine z_lc (zd_icne hx dL_isStep_701 (by decide)) ?_
  refine z_lc (zd_iconst hx dL_isStep_704 (by decide)) ?_
  refine z_lc (zd_goto hx dL_isStep_705 (by decide)) ?_
  refine z_lc (zd_iconst hx dL_isStep_708 (by decide)) ?_
  refine z_lc (zd_zret hx dL_isStep_709 hr hlk) ?_
  refine z_lc (zd_aload_n hx dL_isStep_710 rfl) ?_
  refine z_lc (zd_bipush hx dL_isStep_711 (by decide)) ?_
  refine z_lc (zd_callv hx hcs hT2 (Nat.zero_le _) (Nat.zero_le _) (by decide) dL_isStep_713 zw_19) ?_
  refine z_lc (zd_istore hx dL_isStep_716) ?_
  refine z_lc (zd_aload_n hx dL_isStep_718 rfl) ?_
  refine z_lc (zd_bipush hx dL_isStep_719 (by decide)) ?_
  refine z_lc (zd_callv hx hcs hT2 (Nat.zero_le _) (Nat.zero_le _) (by decide) dL_isStep_721 zw_19) ?_
  refine z_lc (zd_istore hx dL_isStep_724) ?_
  refine z_lc (zd_aload_n hx dL_isStep_726 rfl) ?_
  refine z_lc (zd_bipush hx dL_isStep_727 (by decide)) ?_
  refine z_lc (zd_callv hx hcs hT2 (Nat.zero_le _) (Nat.zero_le _) (by decide) dL_isStep_729 zw_19) ?_
  refine z_lc (zd_istore hx dL_isStep_732) ?_
  refine z_lc (zd_aload_n hx dL_isStep_734 rfl) ?_
  refine z_lc (zd_callv hx hcs hT2 (Nat.zero_le _) (Nat.zero_le _) (by decide) dL_isStep_735 zw_28) ?_
  refine z_lc (zd_istore hx dL_isStep_738) ?_
  refine z_lc (zd_aload_n hx dL_isStep_740 rfl) ?_
  refine z_lc (zd_bipush hx dL_isStep_741 (by decide)) ?_
  refine z_lc (zd_callv hx hcs hT2 (Nat.zero_le _) (Nat.zero_le _) (by decide) dL_isStep_743 zw_19) ?_
  refine z_lc (zd_iload hx dL_isStep_746) ?_
  refine z_lc (zd_isub hx dL_isStep_748) ?_
  refine z_lc (zd_aload_n hx dL_isStep_749 rfl) ?_
  refine z_lc (zd_bipush hx dL_isStep_750 (by decide)) ?_
  refine z_lc (zd_callv hx hcs hT2 (Nat.zero_le _) (Nat.zero_le _) (by decide) dL_isStep_752 zw_19) ?_
  refine z_lc (zd_iadd hx dL_isStep_755) ?_
  refine z_lc (zd_iload hx dL_isStep_756) ?_
  refine z_lc (zd_isub hx dL_isStep_758) ?_
  refine z_lc (zd_istore hx dL_isStep_759) ?_
  refine z_lc (zd_aload_n hx dL_isStep_761 rfl) ?_
  refine z_lc (zd_bipush hx dL_isStep_762 (by decide)) ?_
  refine z_lc (zd_callv hx hcs hT2 (Nat.zero_le _) (Nat.zero_le _) (by decide) dL_isStep_764 zw_19) ?_
  refine z_lc (zd_iload hx dL_isStep_767) ?_
  refine z_lc (zd_isub hx dL_isStep_769) ?_
  refine z_lc (zd_iload hx dL_isStep_770) ?_
  refine z_lc (zd_icgt hx dL_isStep_772 (by decide)) ?_
  refine z_lc (zd_iload hx dL_isStep_775) ?_
  refine z_lc (zd_sipush hx dL_isStep_777 (by decide)) ?_
  refine z_lc (zd_icne hx dL_isStep_780 (by decide)) ?_
  refine z_lc (zd_iload hx dL_isStep_783) ?_
  refine z_lc (zd_ifne hx dL_isStep_785 (by decide)) ?_
  refine z_lc (zd_goto hx dL_isStep_788 (by decide)) ?_
  refine z_lc (zd_iload hx dL_isStep_791) ?_
  refine z_lc (zd_iload hx dL_isStep_793) ?_
  refine z_lc (zd_icne hx dL_isStep_795 (by decide)) ?_
  refine z_lc (zd_iload hx dL_isStep_798) ?_
  refine z_lc (zd_ifle hx dL_isStep_800 (by decide)) ?_
  refine z_lc (zd_aload_n hx dL_isStep_803 rfl) ?_
  refine z_lc (zd_call hx hcs hT2 (Nat.zero_le _) (Nat.zero_le _) dL_isStep_804 zw_23 zmS_4 (by decide)) ?_
  refine z_lc (zd_ifeq hx dL_isStep_807 (by decide)) ?_
  refine z_lc (zd_aload_n hx dL_isStep_810 rfl) ?_
  refine z_lc (zd_aload_n hx dL_isStep_811 rfl) ?_
  refine z_lc (zd_iload hx dL_isStep_812) ?_
  refine z_lc (zd_call hx hcs hT2 (Nat.zero_le _) (Nat.zero_le _) dL_isStep_814 zw_29 zmS_3 (by decide)) ?_
  refine z_lc (zd_ifeq hx dL_isStep_817 (by decide)) ?_
  refine z_lc (zd_iconst hx dL_isStep_820 (by decide)) ?_
  refine z_lc (zd_goto hx dL_isStep_821 (by decide)) ?_
  refine z_lc (zd_iconst hx dL_isStep_824 (by decide)) ?_
  refine z_lc (zd_zret hx dL_isStep_825 hr hlk) ?_
  refine z_lc (zd_aload_n hx dL_isStep_826 rfl) ?_
  refine z_lc (zd_bipush hx dL_isStep_827 (by decide)) ?_
  refine z_lc (zd_callv hx hcs hT2 (Nat.zero_le _) (Nat.zero_le _) (by decide) dL_isStep_829 zw_19) ?_
  refine z_lc (zd_ifeq hx dL_isStep_832 (by decide)) ?_
  refine z_lc (zd_aload_n hx dL_isStep_835 rfl) ?_
  refine z_lc (zd_callv hx hcs hT2 (Nat.zero_le _) (Nat.zero_le _) (by decide) dL_isStep_836 zw_30) ?_
  refine z_lc (zd_aload_n hx dL_isStep_839 rfl) ?_
  refine z_lc (zd_callv hx hcs hT2 (Nat.zero_le _) (Nat.zero_le _) (by decide) dL_isStep_840 zw_30) ?_
  refine z_lc (zd_icne hx dL_isStep_843 (by decide)) ?_
  refine z_lc (zd_iconst hx dL_isStep_846 (by decide)) ?_
  refine z_lc (zd_goto hx dL_isStep_847 (by decide)) ?_
  refine z_lc (zd_iconst hx dL_isStep_850 (by decide)) ?_
  refine z_lc (zd_zret hx dL_isStep_851 hr hlk) ?_
  refine z_lc (zd_iconst hx dL_isStep_852 (by decide)) ?_
  refine z_lc (zd_iload_n hx dL_isStep_853 rfl) ?_
  refine z_lc (zd_bipush hx dL_isStep_854 (by decide)) ?_
  refine z_lc (zd_call hx hcs hT2 (Nat.zero_le _) (Nat.zero_le _) dL_isStep_856 zw_18 zmS_1 (by decide)) ?_
  refine z_lc (zd_iadd hx dL_isStep_859) ?_
  refine z_lc (zd_istore hx dL_isStep_860) ?_
  refine z_lc (zd_iconst hx dL_isStep_862 (by decide)) ?_
  refine z_lc (zd_iload hx dL_isStep_863) ?_
  refine z_lc (zd_bipush hx dL_isStep_865 (by decide)) ?_
  refine z_lc (zd_call hx hcs hT2 (Nat.zero_le _) (Nat.zero_le _) dL_isStep_867 zw_18 zmS_1 (by decide)) ?_
  refine z_lc (zd_iadd hx dL_isStep_870) ?_
  refine z_lc (zd_istore hx dL_isStep_871) ?_
  refine z_lc (zd_aload_n hx dL_isStep_873 rfl) ?_
  refine z_lc (zd_iload hx dL_isStep_874) ?_
  refine z_lc (zd_iload hx dL_isStep_876) ?_
  refine z_lc (zd_callv hx hcs hT2 (Nat.zero_le _) (Nat.zero_le _) (by decide) dL_isStep_878 zw_31) ?_
  refine z_lc (zd_istore hx dL_isStep_881) ?_
  refine z_lc (zd_iload hx dL_isStep_883) ?_
  refine z_lc (zd_aload_n hx dL_isStep_885 rfl) ?_
  refine z_lc (zd_iload hx dL_isStep_886) ?_
  refine z_lc (zd_iload hx dL_isStep_888) ?_
  refine z_lc (zd_callv hx hcs hT2 (Nat.zero_le _) (Nat.zero_le _) (by decide) dL_isStep_890 zw_31) ?_
  refine z_lc (zd_icne hx dL_isStep_893 (by decide)) ?_
  refine z_lc (zd_iload hx dL_isStep_896) ?_
  refine z_lc (zd_iload hx dL_isStep_898) ?_
  refine z_lc (zd_icge hx dL_isStep_900 (by decide)) ?_
  refine z_lc (zd_iload hx dL_isStep_903) ?_
  refine z_lc (zd_sipush hx dL_isStep_905 (by decide)) ?_
  refine z_lc (zd_icne hx dL_isStep_908 (by decide)) ?_
  refine z_lc (zd_goto hx dL_isStep_911 (by decide)) ?_
  refine z_lc (zd_aload_n hx dL_isStep_914 rfl) ?_
  refine z_lc (zd_bipush hx dL_isStep_915 (by decide)) ?_
  refine z_lc (zd_callv hx hcs hT2 (Nat.zero_le _) (Nat.zero_le _) (by decide) dL_isStep_917 zw_19) ?_
  refine z_lc (zd_iload hx dL_isStep_920) ?_
  refine z_lc (zd_ifge hx dL_isStep_922 (by decide)) ?_
  refine z_lc (zd_iload hx dL_isStep_925) ?_
  refine z_lc (zd_goto hx dL_isStep_927 (by decide)) ?_
  refine z_lc (zd_iload hx dL_isStep_930) ?_
  refine z_lc (zd_iload hx dL_isStep_932) ?_
  refine z_lc (zd_isub hx dL_isStep_934) ?_
  refine z_lc (zd_icne hx dL_isStep_935 (by decide)) ?_
  refine z_lc (zd_iconst hx dL_isStep_938 (by decide)) ?_
  refine z_lc (zd_goto hx dL_isStep_939 (by decide)) ?_
  refine z_lc (zd_iconst hx dL_isStep_942 (by decide)) ?_
  refine z_lc (zd_zret hx dL_isStep_943 hr hlk) ?_
  exact z_ln
set_option maxRecDepth 20000 in
theorem zn_L_areSame {p : Program} {l : Launch} {e : Env} {R : Room} {s : State} {m : MethodId} {args : Array Value} {below : List Frame} {meth : Method} {c : Code} {E : z_D} {Rp : z_P} {C : z_C} (hx : z_Cx p s m args c E cL_areSame RL (z_ws 3)) (hcs : z_CS l R E C) (hr : meth.sig.returnType = some .boolean) (hlk : meth.locks = false) : ∀ pc, z_Snd p l e R s m args below meth c E 0 0 (MQ below (z_Q E Rp) args s 0 0 (z_B E)) Rp C pc (zc_L_areSame pc) := by
  have hT2 : ∀ w ∈ bb_TB, w ∈ z_ws 3 := fun w h => List.mem_cons_of_mem _ h
  unfold zc_L_areSame
  refine z_lkS (fun pc => zd_fail) ?_
  refine z_lc (zd_aload_n hx dL_areSame_0 rfl) ?_
  refine z_lc (zd_callv hx hcs hT2 (Nat.zero_le _) (Nat.zero_le _) (by decide) dL_areSame_1 zw_28) ?_
  refine z_lc (zd_iload_n hx dL_areSame_4 rfl) ?_
  refine z_lc (zd_icne hx dL_areSame_5 (by decide)) ?_
  refine z_lc (zd_iconst hx dL_areSame_8 (by decide)) ?_
  refine z_lc (zd_goto hx dL_areSame_9 (by decide)) ?_
  refine z_lc (zd_iconst hx dL_areSame_12 (by decide)) ?_
  refine z_lc (zd_zret hx dL_areSame_13 hr hlk) ?_
  exact z_ln
set_option maxRecDepth 20000 in
theorem zn_L_isBalanced {p : Program} {l : Launch} {e : Env} {R : Room} {s : State} {m : MethodId} {args : Array Value} {below : List Frame} {meth : Method} {c : Code} {E : z_D} {Rp : z_P} {C : z_C} (hx : z_Cx p s m args c E cL_isBalanced RL (z_ws 4)) (hcs : z_CS l R E C) (hr : meth.sig.returnType = some .boolean) (hlk : meth.locks = false) : ∀ pc, z_Snd p l e R s m args below meth c E 0 0 (MQ below (z_Q E Rp) args s 0 0 (z_B E)) Rp C pc (zc_L_isBalanced pc) := by
  have hT2 : ∀ w ∈ bb_TB, w ∈ z_ws 4 := fun w h => List.mem_cons_of_mem _ h
  unfold zc_L_isBalanced
  refine z_lkS (fun pc => zd_fail) ?_
  refine z_lc (zd_aload_n hx dL_isBalanced_0 rfl) ?_
  refine z_lc (zd_iconst hx dL_isBalanced_1 (by decide)) ?_
  refine z_lc (zd_callv hx hcs hT2 (Nat.zero_le _) (Nat.zero_le _) (by decide) dL_isBalanced_2 zw_19) ?_
  refine z_lc (zd_aload_n hx dL_isBalanced_5 rfl) ?_
  refine z_lc (zd_iconst hx dL_isBalanced_6 (by decide)) ?_
  refine z_lc (zd_callv hx hcs hT2 (Nat.zero_le _) (Nat.zero_le _) (by decide) dL_isBalanced_7 zw_19) ?_
  refine z_lc (zd_iadd hx dL_isBalanced_10) ?_
  refine z_lc (zd_aload_n hx dL_isBalanced_11 rfl) ?_
  refine z_lc (zd_iconst hx dL_isBalanced_12 (by decide)) ?_
  refine z_lc (zd_callv hx hcs hT2 (Nat.zero_le _) (Nat.zero_le _) (by decide) dL_isBalanced_13 zw_19) ?_
  refine z_lc (zd_iadd hx dL_isBalanced_16) ?_
  refine z_lc (zd_aload_n hx dL_isBalanced_17 rfl) ?_
  refine z_lc (zd_iconst hx dL_isBalanced_18 (by decide)) ?_
  refine z_lc (zd_callv hx hcs hT2 (Nat.zero_le _) (Nat.zero_le _) (by decide) dL_isBalanced_19 zw_19) ?_
  refine z_lc (zd_iadd hx dL_isBalanced_22) ?_
  refine z_lc (zd_sipush hx dL_isBalanced_23 (by decide)) ?_
  refine z_lc (zd_aload_n hx dL_isBalanced_26 rfl) ?_
  refine z_lc (zd_iconst hx dL_isBalanced_27 (by decide)) ?_
  refine z_lc (zd_callv hx hcs hT2 (Nat.zero_le _) (Nat.zero_le _) (by decide) dL_isBalanced_28 zw_19) ?_
  refine z_lc (zd_iadd hx dL_isBalanced_31) ?_
  refine z_lc (zd_icne hx dL_isBalanced_32 (by decide)) ?_
  refine z_lc (zd_iconst hx dL_isBalanced_35 (by decide)) ?_
  refine z_lc (zd_goto hx dL_isBalanced_36 (by decide)) ?_
  refine z_lc (zd_iconst hx dL_isBalanced_39 (by decide)) ?_
  refine z_lc (zd_zret hx dL_isBalanced_40 hr hlk) ?_
  exact z_ln
set_option maxRecDepth 20000 in
theorem zn_L_areEnded {p : Program} {l : Launch} {e : Env} {R : Room} {s : State} {m : MethodId} {args : Array Value} {below : List Frame} {meth : Method} {c : Code} {E : z_D} {Rp : z_P} {C : z_C} (hx : z_Cx p s m args c E cL_areEnded RL (z_ws 5)) (hcs : z_CS l R E C) (hr : meth.sig.returnType = some .boolean) (hlk : meth.locks = false) : ∀ pc, z_Snd p l e R s m args below meth c E 0 0 (MQ below (z_Q E Rp) args s 0 0 (z_B E)) Rp C pc (zc_L_areEnded pc) := by
  have hT2 : ∀ w ∈ bb_TB, w ∈ z_ws 5 := fun w h => List.mem_cons_of_mem _ h
  unfold zc_L_areEnded
  refine z_lkS (fun pc => zd_fail) ?_
  refine z_lc (zd_iconst hx dL_areEnded_0 (by decide)) ?_
  refine z_lc (zd_istore hx dL_areEnded_1) ?_
  refine z_lc (zd_aload_n hx dL_areEnded_3 rfl) ?_
  refine z_lc (zd_iload_n hx dL_areEnded_4 rfl) ?_
  refine z_lc (zd_iconst hx dL_areEnded_5 (by decide)) ?_
  refine z_lc (zd_callv hx hcs hT2 (Nat.zero_le _) (Nat.zero_le _) (by decide) dL_areEnded_6 zw_32) ?_
  refine z_lc (zd_sipush hx dL_areEnded_9 (by decide)) ?_
  refine z_lc (zd_icne hx dL_areEnded_12 (by decide)) ?_
  refine z_lc (zd_iconst hx dL_areEnded_15 (by decide)) ?_
  refine z_lc (zd_goto hx dL_areEnded_16 (by decide)) ?_
  refine z_lc (zd_iconst hx dL_areEnded_19 (by decide)) ?_
  refine z_lc (zd_istore hx dL_areEnded_20) ?_
  refine z_lc (zd_iconst hx dL_areEnded_22 (by decide)) ?_
  refine z_lc (zd_istore hx dL_areEnded_23) ?_
  refine z_lc (zd_iload hx dL_areEnded_25) ?_
  refine z_lc (zd_iload_n hx dL_areEnded_27 rfl) ?_
  refine z_lc (zd_icge hx dL_areEnded_28 (by decide)) ?_
  refine z_lc (zd_iload hx dL_areEnded_31) ?_
  refine z_lc (zd_ifeq hx dL_areEnded_33 (by decide)) ?_
  refine z_lc (zd_iload hx dL_areEnded_36) ?_
  refine z_lc (zd_aload_n hx dL_areEnded_38 rfl) ?_
  refine z_lc (zd_iload hx dL_areEnded_39) ?_
  refine z_lc (zd_iconst hx dL_areEnded_41 (by decide)) ?_
  refine z_lc (zd_callv hx hcs hT2 (Nat.zero_le _) (Nat.zero_le _) (by decide) dL_areEnded_42 zw_32) ?_
  refine z_lc (zd_iadd hx dL_areEnded_45) ?_
  refine z_lc (zd_istore hx dL_areEnded_46) ?_
  refine z_lc (zd_aload_n hx dL_areEnded_48 rfl) ?_
  refine z_lc (zd_iload hx dL_areEnded_49) ?_
  refine z_lc (zd_iconst hx dL_areEnded_51 (by decide)) ?_
  refine z_lc (zd_callv hx hcs hT2 (Nat.zero_le _) (Nat.zero_le _) (by decide) dL_areEnded_52 zw_32) ?_
  refine z_lc (zd_iconst hx dL_areEnded_55 (by decide)) ?_
  refine z_lc (zd_aload_n hx dL_areEnded_56 rfl) ?_
  refine z_lc (zd_iload hx dL_areEnded_57) ?_
  refine z_lc (zd_iconst hx dL_areEnded_59 (by decide)) ?_
  refine z_lc (zd_callv hx hcs hT2 (Nat.zero_le _) (Nat.zero_le _) (by decide) dL_areEnded_60 zw_32) ?_
  refine z_lc (zd_isub hx dL_areEnded_63) ?_
  refine z_lc (zd_icne hx dL_areEnded_64 (by decide)) ?_
  refine z_lc (zd_iconst hx dL_areEnded_67 (by decide)) ?_
  refine z_lc (zd_goto hx dL_areEnded_68 (by decide)) ?_
  refine z_lc (zd_iconst hx dL_areEnded_71 (by decide)) ?_
  refine z_lc (zd_istore hx dL_areEnded_72) ?_
  refine z_lc (zd_iconst hx dL_areEnded_74 (by decide)) ?_
  refine z_lc (zd_istore hx dL_areEnded_75) ?_
  refine z_lc (zd_iload hx dL_areEnded_77) ?_
  refine z_lc (zd_bipush hx dL_areEnded_79 (by decide)) ?_
  refine z_lc (zd_icge hx dL_areEnded_81 (by decide)) ?_
  refine z_lc (zd_iload hx dL_areEnded_84) ?_
  refine z_lc (zd_ifeq hx dL_areEnded_86 (by decide)) ?_
  refine z_lc (zd_aload_n hx dL_areEnded_89 rfl) ?_
  refine z_lc (zd_iload hx dL_areEnded_90) ?_
  refine z_lc (zd_iload hx dL_areEnded_92) ?_
  refine z_lc (zd_callv hx hcs hT2 (Nat.zero_le _) (Nat.zero_le _) (by decide) dL_areEnded_94 zw_32) ?_
  refine z_lc (zd_aload_n hx dL_areEnded_97 rfl) ?_
  refine z_lc (zd_iload hx dL_areEnded_98) ?_
  refine z_lc (zd_iload hx dL_areEnded_100) ?_
  refine z_lc (zd_callv hx hcs hT2 (Nat.zero_le _) (Nat.zero_le _) (by decide) dL_areEnded_102 zw_32) ?_
  refine z_lc (zd_icne hx dL_areEnded_105 (by decide)) ?_
  refine z_lc (zd_iconst hx dL_areEnded_108 (by decide)) ?_
  refine z_lc (zd_goto hx dL_areEnded_109 (by decide)) ?_
  refine z_lc (zd_iconst hx dL_areEnded_112 (by decide)) ?_
  refine z_lc (zd_istore hx dL_areEnded_113) ?_
  refine z_lc (zd_iinc hx dL_areEnded_115 (by decide)) ?_
  refine z_lc (zd_goto hx dL_areEnded_118 (by decide)) ?_
  refine z_lc (zd_iinc hx dL_areEnded_121 (by decide)) ?_
  refine z_lc (zd_goto hx dL_areEnded_124 (by decide)) ?_
  refine z_lc (zd_iload hx dL_areEnded_127) ?_
  refine z_lc (zd_ifeq hx dL_areEnded_129 (by decide)) ?_
  refine z_lc (zd_iload hx dL_areEnded_132) ?_
  refine z_lc (zd_iload_n hx dL_areEnded_134 rfl) ?_
  refine z_lc (zd_icne hx dL_areEnded_135 (by decide)) ?_
  refine z_lc (zd_iconst hx dL_areEnded_138 (by decide)) ?_
  refine z_lc (zd_goto hx dL_areEnded_139 (by decide)) ?_
  refine z_lc (zd_iconst hx dL_areEnded_142 (by decide)) ?_
  refine z_lc (zd_zret hx dL_areEnded_143 hr hlk) ?_
  exact z_ln
set_option maxRecDepth 20000 in
theorem zn_L_areAlike {p : Program} {l : Launch} {e : Env} {R : Room} {s : State} {m : MethodId} {args : Array Value} {below : List Frame} {meth : Method} {c : Code} {E : z_D} {Rp : z_P} {C : z_C} (hx : z_Cx p s m args c E cL_areAlike RL (z_ws 6)) (hcs : z_CS l R E C) (hr : meth.sig.returnType = some .boolean) (hlk : meth.locks = false) : ∀ pc, z_Snd p l e R s m args below meth c E 0 0 (MQ below (z_Q E Rp) args s 0 0 (z_B E)) Rp C pc (zc_L_areAlike pc) := by
  have hT2 : ∀ w ∈ bb_TB, w ∈ z_ws 6 := fun w h => List.mem_cons_of_mem _ h
  unfold zc_L_areAlike
  refine z_lkS (fun pc => zd_fail) ?_
  refine z_lc (zd_iconst hx dL_areAlike_0 (by decide)) ?_
  refine z_lc (zd_istore_n hx dL_areAlike_1 rfl) ?_
  refine z_lc (zd_iconst hx dL_areAlike_2 (by decide)) ?_
  refine z_lc (zd_istore hx dL_areAlike_3) ?_
  refine z_lc (zd_iload hx dL_areAlike_5) ?_
  refine z_lc (zd_bipush hx dL_areAlike_7 (by decide)) ?_
  refine z_lc (zd_icge hx dL_areAlike_9 (by decide)) ?_
  refine z_lc (zd_iload_n hx dL_areAlike_12 rfl) ?_
  refine z_lc (zd_ifeq hx dL_areAlike_13 (by decide)) ?_
  refine z_lc (zd_aload_n hx dL_areAlike_16 rfl) ?_
  refine z_lc (zd_iload hx dL_areAlike_17) ?_
  refine z_lc (zd_callv hx hcs hT2 (Nat.zero_le _) (Nat.zero_le _) (by decide) dL_areAlike_19 zw_19) ?_
  refine z_lc (zd_aload_n hx dL_areAlike_22 rfl) ?_
  refine z_lc (zd_iload hx dL_areAlike_23) ?_
  refine z_lc (zd_callv hx hcs hT2 (Nat.zero_le _) (Nat.zero_le _) (by decide) dL_areAlike_25 zw_19) ?_
  refine z_lc (zd_icne hx dL_areAlike_28 (by decide)) ?_
  refine z_lc (zd_iconst hx dL_areAlike_31 (by decide)) ?_
  refine z_lc (zd_goto hx dL_areAlike_32 (by decide)) ?_
  refine z_lc (zd_iconst hx dL_areAlike_35 (by decide)) ?_
  refine z_lc (zd_istore_n hx dL_areAlike_36 rfl) ?_
  refine z_lc (zd_iinc hx dL_areAlike_37 (by decide)) ?_
  refine z_lc (zd_goto hx dL_areAlike_40 (by decide)) ?_
  refine z_lc (zd_iconst hx dL_areAlike_43 (by decide)) ?_
  refine z_lc (zd_istore hx dL_areAlike_44) ?_
  refine z_lc (zd_iload hx dL_areAlike_46) ?_
  refine z_lc (zd_iconst hx dL_areAlike_48 (by decide)) ?_
  refine z_lc (zd_icge hx dL_areAlike_49 (by decide)) ?_
  refine z_lc (zd_iload_n hx dL_areAlike_52 rfl) ?_
  refine z_lc (zd_ifeq hx dL_areAlike_53 (by decide)) ?_
  refine z_lc (zd_iconst hx dL_areAlike_56 (by decide)) ?_
  refine z_lc (zd_istore hx dL_areAlike_57) ?_
  refine z_lc (zd_iload hx dL_areAlike_59) ?_
  refine z_lc (zd_bipush hx dL_areAlike_61 (by decide)) ?_
  refine z_lc (zd_icge hx dL_areAlike_63 (by decide)) ?_
  refine z_lc (zd_iload_n hx dL_areAlike_66 rfl) ?_
  refine z_lc (zd_ifeq hx dL_areAlike_67 (by decide)) ?_
  refine z_lc (zd_aload_n hx dL_areAlike_70 rfl) ?_
  refine z_lc (zd_iload hx dL_areAlike_71) ?_
  refine z_lc (zd_iload hx dL_areAlike_73) ?_
  refine z_lc (zd_callv hx hcs hT2 (Nat.zero_le _) (Nat.zero_le _) (by decide) dL_areAlike_75 zw_33) ?_
  refine z_lc (zd_aload_n hx dL_areAlike_78 rfl) ?_
  refine z_lc (zd_iconst hx dL_areAlike_79 (by decide)) ?_
  refine z_lc (zd_iload hx dL_areAlike_80) ?_
  refine z_lc (zd_isub hx dL_areAlike_82) ?_
  refine z_lc (zd_iload hx dL_areAlike_83) ?_
  refine z_lc (zd_callv hx hcs hT2 (Nat.zero_le _) (Nat.zero_le _) (by decide) dL_areAlike_85 zw_33) ?_
  refine z_lc (zd_icne hx dL_areAlike_88 (by decide)) ?_
  refine z_lc (zd_iconst hx dL_areAlike_91 (by decide)) ?_
  refine z_lc (zd_goto hx dL_areAlike_92 (by decide)) ?_
  refine z_lc (zd_iconst hx dL_areAlike_95 (by decide)) ?_
  refine z_lc (zd_istore_n hx dL_areAlike_96 rfl) ?_
  refine z_lc (zd_iinc hx dL_areAlike_97 (by decide)) ?_
  refine z_lc (zd_goto hx dL_areAlike_100 (by decide)) ?_
  refine z_lc (zd_iconst hx dL_areAlike_103 (by decide)) ?_
  refine z_lc (zd_istore hx dL_areAlike_104) ?_
  refine z_lc (zd_iload hx dL_areAlike_106) ?_
  refine z_lc (zd_bipush hx dL_areAlike_108 (by decide)) ?_
  refine z_lc (zd_icge hx dL_areAlike_110 (by decide)) ?_
  refine z_lc (zd_iload_n hx dL_areAlike_113 rfl) ?_
  refine z_lc (zd_ifeq hx dL_areAlike_114 (by decide)) ?_
  refine z_lc (zd_aload_n hx dL_areAlike_117 rfl) ?_
  refine z_lc (zd_iload hx dL_areAlike_118) ?_
  refine z_lc (zd_iload hx dL_areAlike_120) ?_
  refine z_lc (zd_iconst hx dL_areAlike_122 (by decide)) ?_
  refine z_lc (zd_callv hx hcs hT2 (Nat.zero_le _) (Nat.zero_le _) (by decide) dL_areAlike_123 zw_24) ?_
  refine z_lc (zd_aload_n hx dL_areAlike_126 rfl) ?_
  refine z_lc (zd_iconst hx dL_areAlike_127 (by decide)) ?_
  refine z_lc (zd_iload hx dL_areAlike_128) ?_
  refine z_lc (zd_isub hx dL_areAlike_130) ?_
  refine z_lc (zd_iload hx dL_areAlike_131) ?_
  refine z_lc (zd_iconst hx dL_areAlike_133 (by decide)) ?_
  refine z_lc (zd_callv hx hcs hT2 (Nat.zero_le _) (Nat.zero_le _) (by decide) dL_areAlike_134 zw_24) ?_
  refine z_lc (zd_icne hx dL_areAlike_137 (by decide)) ?_
  refine z_lc (zd_aload_n hx dL_areAlike_140 rfl) ?_
  refine z_lc (zd_iload hx dL_areAlike_141) ?_
  refine z_lc (zd_iload hx dL_areAlike_143) ?_
  refine z_lc (zd_iconst hx dL_areAlike_145 (by decide)) ?_
  refine z_lc (zd_callv hx hcs hT2 (Nat.zero_le _) (Nat.zero_le _) (by decide) dL_areAlike_146 zw_24) ?_
  refine z_lc (zd_aload_n hx dL_areAlike_149 rfl) ?_
  refine z_lc (zd_iconst hx dL_areAlike_150 (by decide)) ?_
  refine z_lc (zd_iload hx dL_areAlike_151) ?_
  refine z_lc (zd_isub hx dL_areAlike_153) ?_
  refine z_lc (zd_iload hx dL_areAlike_154) ?_
  refine z_lc (zd_iconst hx dL_areAlike_156 (by decide)) ?_
  refine z_lc (zd_callv hx hcs hT2 (Nat.zero_le _) (Nat.zero_le _) (by decide) dL_areAlike_157 zw_24) ?_
  refine z_lc (zd_icne hx dL_areAlike_160 (by decide)) ?_
  refine z_lc (zd_aload_n hx dL_areAlike_163 rfl) ?_
  refine z_lc (zd_iload hx dL_areAlike_164) ?_
  refine z_lc (zd_iload hx dL_areAlike_166) ?_
  refine z_lc (zd_iconst hx dL_areAlike_168 (by decide)) ?_
  refine z_lc (zd_callv hx hcs hT2 (Nat.zero_le _) (Nat.zero_le _) (by decide) dL_areAlike_169 zw_24) ?_
  refine z_lc (zd_aload_n hx dL_areAlike_172 rfl) ?_
  refine z_lc (zd_iconst hx dL_areAlike_173 (by decide)) ?_
  refine z_lc (zd_iload hx dL_areAlike_174) ?_
  refine z_lc (zd_isub hx dL_areAlike_176) ?_
  refine z_lc (zd_iload hx dL_areAlike_177) ?_
  refine z_lc (zd_iconst hx dL_areAlike_179 (by decide)) ?_
  refine z_lc (zd_callv hx hcs hT2 (Nat.zero_le _) (Nat.zero_le _) (by decide) dL_areAlike_180 zw_24) ?_
  refine z_lc (zd_icne hx dL_areAlike_183 (by decide)) ?_
  refine z_lc (zd_iconst hx dL_areAlike_186 (by decide)) ?_
  refine z_lc (zd_goto hx dL_areAlike_187 (by decide)) ?_
  refine z_lc (zd_iconst hx dL_areAlike_190 (by decide)) ?_
  refine z_lc (zd_istore_n hx dL_areAlike_191 rfl) ?_
  refine z_lc (zd_iinc hx dL_areAlike_192 (by decide)) ?_
  refine z_lc (zd_goto hx dL_areAlike_195 (by decide)) ?_
  refine z_lc (zd_iconst hx dL_areAlike_198 (by decide)) ?_
  refine z_lc (zd_iload_n hx dL_areAlike_199 rfl) ?_
  refine z_lc (zd_iconst hx dL_areAlike_200 (by decide)) ?_
  refine z_lc (zd_iload hx dL_areAlike_201) ?_
  refine z_lc (zd_imul hx dL_areAlike_203) ?_
  refine z_lc (zd_ishr hx dL_areAlike_204) ?_
  refine z_lc (zd_bipush hx dL_areAlike_205 (by decide)) ?_
  refine z_lc (zd_call hx hcs hT2 (Nat.zero_le _) (Nat.zero_le _) dL_areAlike_207 zw_18 zmS_1 (by decide)) ?_
  refine z_lc (zd_iadd hx dL_areAlike_210) ?_
  refine z_lc (zd_istore hx dL_areAlike_211) ?_
  refine z_lc (zd_iconst hx dL_areAlike_213 (by decide)) ?_
  refine z_lc (zd_istore hx dL_areAlike_214) ?_
  refine z_lc (zd_iload hx dL_areAlike_216) ?_
  refine z_lc (zd_bipush hx dL_areAlike_218 (by decide)) ?_
  refine z_lc (zd_icge hx dL_areAlike_220 (by decide)) ?_
  refine z_lc (zd_iload_n hx dL_areAlike_223 rfl) ?_
  refine z_lc (zd_ifeq hx dL_areAlike_224 (by decide)) ?_
  refine z_lc (zd_aload_n hx dL_areAlike_227 rfl) ?_
  refine z_lc (zd_iload hx dL_areAlike_228) ?_
  refine z_lc (zd_iload hx dL_areAlike_230) ?_
  refine z_lc (zd_iload hx dL_areAlike_232) ?_
  refine z_lc (zd_callv hx hcs hT2 (Nat.zero_le _) (Nat.zero_le _) (by decide) dL_areAlike_234 zw_34) ?_
  refine z_lc (zd_aload_n hx dL_areAlike_237 rfl) ?_
  refine z_lc (zd_iconst hx dL_areAlike_238 (by decide)) ?_
  refine z_lc (zd_iload hx dL_areAlike_239) ?_
  refine z_lc (zd_isub hx dL_areAlike_241) ?_
  refine z_lc (zd_iload hx dL_areAlike_242) ?_
  refine z_lc (zd_iload hx dL_areAlike_244) ?_
  refine z_lc (zd_callv hx hcs hT2 (Nat.zero_le _) (Nat.zero_le _) (by decide) dL_areAlike_246 zw_34) ?_
  refine z_lc (zd_icne hx dL_areAlike_249 (by decide)) ?_
  refine z_lc (zd_iconst hx dL_areAlike_252 (by decide)) ?_
  refine z_lc (zd_goto hx dL_areAlike_253 (by decide)) ?_
  refine z_lc (zd_iconst hx dL_areAlike_256 (by decide)) ?_
  refine z_lc (zd_istore_n hx dL_areAlike_257 rfl) ?_
  refine z_lc (zd_iinc hx dL_areAlike_258 (by decide)) ?_
  refine z_lc (zd_goto hx dL_areAlike_261 (by decide)) ?_
  refine z_lc (zd_iinc hx dL_areAlike_264 (by decide)) ?_
  refine z_lc (zd_goto hx dL_areAlike_267 (by decide)) ?_
  refine z_lc (zd_iconst hx dL_areAlike_270 (by decide)) ?_
  refine z_lc (zd_istore hx dL_areAlike_271) ?_
  refine z_lc (zd_iload hx dL_areAlike_273) ?_
  refine z_lc (zd_aload_n hx dL_areAlike_275 rfl) ?_
  refine z_lc (zd_bipush hx dL_areAlike_276 (by decide)) ?_
  refine z_lc (zd_callv hx hcs hT2 (Nat.zero_le _) (Nat.zero_le _) (by decide) dL_areAlike_278 zw_19) ?_
  refine z_lc (zd_icge hx dL_areAlike_281 (by decide)) ?_
  refine z_lc (zd_iload_n hx dL_areAlike_284 rfl) ?_
  refine z_lc (zd_ifeq hx dL_areAlike_285 (by decide)) ?_
  refine z_lc (zd_aload_n hx dL_areAlike_288 rfl) ?_
  refine z_lc (zd_iload hx dL_areAlike_289) ?_
  refine z_lc (zd_iconst hx dL_areAlike_291 (by decide)) ?_
  refine z_lc (zd_callv hx hcs hT2 (Nat.zero_le _) (Nat.zero_le _) (by decide) dL_areAlike_292 zw_35) ?_
  refine z_lc (zd_iconst hx dL_areAlike_295 (by decide)) ?_
  refine z_lc (zd_aload_n hx dL_areAlike_296 rfl) ?_
  refine z_lc (zd_iload hx dL_areAlike_297) ?_
  refine z_lc (zd_iconst hx dL_areAlike_299 (by decide)) ?_
  refine z_lc (zd_callv hx hcs hT2 (Nat.zero_le _) (Nat.zero_le _) (by decide) dL_areAlike_300 zw_35) ?_
  refine z_lc (zd_isub hx dL_areAlike_303) ?_
  refine z_lc (zd_icne hx dL_areAlike_304 (by decide)) ?_
  refine z_lc (zd_aload_n hx dL_areAlike_307 rfl) ?_
  refine z_lc (zd_iload hx dL_areAlike_308) ?_
  refine z_lc (zd_iconst hx dL_areAlike_310 (by decide)) ?_
  refine z_lc (zd_callv hx hcs hT2 (Nat.zero_le _) (Nat.zero_le _) (by decide) dL_areAlike_311 zw_35) ?_
  refine z_lc (zd_aload_n hx dL_areAlike_314 rfl) ?_
  refine z_lc (zd_iload hx dL_areAlike_315) ?_
  refine z_lc (zd_iconst hx dL_areAlike_317 (by decide)) ?_
  refine z_lc (zd_callv hx hcs hT2 (Nat.zero_le _) (Nat.zero_le _) (by decide) dL_areAlike_318 zw_35) ?_
  refine z_lc (zd_icne hx dL_areAlike_321 (by decide)) ?_
  refine z_lc (zd_iconst hx dL_areAlike_324 (by decide)) ?_
  refine z_lc (zd_goto hx dL_areAlike_325 (by decide)) ?_
  refine z_lc (zd_iconst hx dL_areAlike_328 (by decide)) ?_
  refine z_lc (zd_istore_n hx dL_areAlike_329 rfl) ?_
  refine z_lc (zd_iinc hx dL_areAlike_330 (by decide)) ?_
  refine z_lc (zd_goto hx dL_areAlike_333 (by decide)) ?_
  refine z_lc (zd_iload_n hx dL_areAlike_336 rfl) ?_
  refine z_lc (zd_ifeq hx dL_areAlike_337 (by decide)) ?_
  refine z_lc (zd_aload_n hx dL_areAlike_340 rfl) ?_
  refine z_lc (zd_iconst hx dL_areAlike_341 (by decide)) ?_
  refine z_lc (zd_bipush hx dL_areAlike_342 (by decide)) ?_
  refine z_lc (zd_callv hx hcs hT2 (Nat.zero_le _) (Nat.zero_le _) (by decide) dL_areAlike_344 zw_36) ?_
  refine z_lc (zd_aload_n hx dL_areAlike_347 rfl) ?_
  refine z_lc (zd_iconst hx dL_areAlike_348 (by decide)) ?_
  refine z_lc (zd_bipush hx dL_areAlike_349 (by decide)) ?_
  refine z_lc (zd_callv hx hcs hT2 (Nat.zero_le _) (Nat.zero_le _) (by decide) dL_areAlike_351 zw_36) ?_
  refine z_lc (zd_icne hx dL_areAlike_354 (by decide)) ?_
  refine z_lc (zd_iconst hx dL_areAlike_357 (by decide)) ?_
  refine z_lc (zd_goto hx dL_areAlike_358 (by decide)) ?_
  refine z_lc (zd_iconst hx dL_areAlike_361 (by decide)) ?_
  refine z_lc (zd_zret hx dL_areAlike_362 hr hlk) ?_
  exact z_ln
set_option maxRecDepth 20000 in
theorem zn_L_isWell {p : Program} {l : Launch} {e : Env} {R : Room} {s : State} {m : MethodId} {args : Array Value} {below : List Frame} {meth : Method} {c : Code} {E : z_D} {Rp : z_P} {C : z_C} (hx : z_Cx p s m args c E cL_isWell RL (z_ws 7)) (hcs : z_CS l R E C) (hr : meth.sig.returnType = some .boolean) (hlk : meth.locks = false) : ∀ pc, z_Snd p l e R s m args below meth c E 0 0 (MQ below (z_Q E Rp) args s 0 0 (z_B E)) Rp C pc (zc_L_isWell pc) := by
  have hT2 : ∀ w ∈ bb_TB, w ∈ z_ws 7 := fun w h => List.mem_cons_of_mem _ h
  unfold zc_L_isWell
  refine z_lkS (fun pc => zd_fail) ?_
  refine z_lc (zd_iconst hx dL_isWell_0 (by decide)) ?_
  refine z_lc (zd_istore_n hx dL_isWell_1 rfl) ?_
  refine z_lc (zd_iconst hx dL_isWell_2 (by decide)) ?_
  refine z_lc (zd_istore_n hx dL_isWell_3 rfl) ?_
  refine z_lc (zd_iconst hx dL_isWell_4 (by decide)) ?_
  refine z_lc (zd_istore_n hx dL_isWell_5 rfl) ?_
  refine z_lc (zd_iconst hx dL_isWell_6 (by decide)) ?_
  refine z_lc (zd_istore hx dL_isWell_7) ?_
  refine z_lc (zd_iconst hx dL_isWell_9 (by decide)) ?_
  refine z_lc (zd_istore hx dL_isWell_10) ?_
  refine z_lc (zd_iconst hx dL_isWell_12 (by decide)) ?_
  refine z_lc (zd_istore hx dL_isWell_13) ?_
  refine z_lc (zd_iload hx dL_isWell_15) ?_
  refine z_lc (zd_iconst hx dL_isWell_17 (by decide)) ?_
  refine z_lc (zd_icge hx dL_isWell_18 (by decide)) ?_
  refine z_lc (zd_iload hx dL_isWell_21) ?_
  refine z_lc (zd_ifeq hx dL_isWell_23 (by decide)) ?_
  refine z_lc (zd_iconst hx dL_isWell_26 (by decide)) ?_
  refine z_lc (zd_istore hx dL_isWell_27) ?_
  refine z_lc (zd_sipush hx dL_isWell_29 (by decide)) ?_
  refine z_lc (zd_istore hx dL_isWell_32) ?_
  refine z_lc (zd_iconst hx dL_isWell_34 (by decide)) ?_
  refine z_lc (zd_istore hx dL_isWell_35) ?_
  refine z_lc (zd_iload hx dL_isWell_37) ?_
  refine z_lc (zd_bipush hx dL_isWell_39 (by decide)) ?_
  refine z_lc (zd_icge hx dL_isWell_41 (by decide)) ?_
  refine z_lc (zd_iload hx dL_isWell_44) ?_
  refine z_lc (zd_ifeq hx dL_isWell_46 (by decide)) ?_
  refine z_lc (zd_aload_n hx dL_isWell_49 rfl) ?_
  refine z_lc (zd_iload hx dL_isWell_50) ?_
  refine z_lc (zd_iload hx dL_isWell_52) ?_
  refine z_lc (zd_iconst hx dL_isWell_54 (by decide)) ?_
  refine z_lc (zd_callv hx hcs hT2 (Nat.zero_le _) (Nat.zero_le _) (by decide) dL_isWell_55 zw_24) ?_
  refine z_lc (zd_istore hx dL_isWell_58) ?_
  refine z_lc (zd_aload_n hx dL_isWell_60 rfl) ?_
  refine z_lc (zd_iload hx dL_isWell_61) ?_
  refine z_lc (zd_iload hx dL_isWell_63) ?_
  refine z_lc (zd_iconst hx dL_isWell_65 (by decide)) ?_
  refine z_lc (zd_callv hx hcs hT2 (Nat.zero_le _) (Nat.zero_le _) (by decide) dL_isWell_66 zw_24) ?_
  refine z_lc (zd_iconst hx dL_isWell_69 (by decide)) ?_
  refine z_lc (zd_icne hx dL_isWell_70 (by decide)) ?_
  refine z_lc (zd_iconst hx dL_isWell_73 (by decide)) ?_
  refine z_lc (zd_goto hx dL_isWell_74 (by decide)) ?_
  refine z_lc (zd_iconst hx dL_isWell_77 (by decide)) ?_
  refine z_lc (zd_istore hx dL_isWell_78) ?_
  refine z_lc (zd_aload_n hx dL_isWell_80 rfl) ?_
  refine z_lc (zd_iload hx dL_isWell_81) ?_
  refine z_lc (zd_iload hx dL_isWell_83) ?_
  refine z_lc (zd_iconst hx dL_isWell_85 (by decide)) ?_
  refine z_lc (zd_callv hx hcs hT2 (Nat.zero_le _) (Nat.zero_le _) (by decide) dL_isWell_86 zw_24) ?_
  refine z_lc (zd_iconst hx dL_isWell_89 (by decide)) ?_
  refine z_lc (zd_icne hx dL_isWell_90 (by decide)) ?_
  refine z_lc (zd_iconst hx dL_isWell_93 (by decide)) ?_
  refine z_lc (zd_goto hx dL_isWell_94 (by decide)) ?_
  refine z_lc (zd_iconst hx dL_isWell_97 (by decide)) ?_
  refine z_lc (zd_istore hx dL_isWell_98) ?_
  refine z_lc (zd_aload_n hx dL_isWell_100 rfl) ?_
  refine z_lc (zd_iload hx dL_isWell_101) ?_
  refine z_lc (zd_iload hx dL_isWell_103) ?_
  refine z_lc (zd_iconst hx dL_isWell_105 (by decide)) ?_
  refine z_lc (zd_callv hx hcs hT2 (Nat.zero_le _) (Nat.zero_le _) (by decide) dL_isWell_106 zw_24) ?_
  refine z_lc (zd_ifgt hx dL_isWell_109 (by decide)) ?_
  refine z_lc (zd_iconst hx dL_isWell_112 (by decide)) ?_
  refine z_lc (zd_goto hx dL_isWell_113 (by decide)) ?_
  refine z_lc (zd_iconst hx dL_isWell_116 (by decide)) ?_
  refine z_lc (zd_istore hx dL_isWell_117) ?_
  refine z_lc (zd_iload hx dL_isWell_119) ?_
  refine z_lc (zd_ifle hx dL_isWell_121 (by decide)) ?_
  refine z_lc (zd_aload_n hx dL_isWell_124 rfl) ?_
  refine z_lc (zd_iload hx dL_isWell_125) ?_
  refine z_lc (zd_iconst hx dL_isWell_127 (by decide)) ?_
  refine z_lc (zd_isub hx dL_isWell_128) ?_
  refine z_lc (zd_iload hx dL_isWell_129) ?_
  refine z_lc (zd_iconst hx dL_isWell_131 (by decide)) ?_
  refine z_lc (zd_callv hx hcs hT2 (Nat.zero_le _) (Nat.zero_le _) (by decide) dL_isWell_132 zw_24) ?_
  refine z_lc (zd_iconst hx dL_isWell_135 (by decide)) ?_
  refine z_lc (zd_icne hx dL_isWell_136 (by decide)) ?_
  refine z_lc (zd_aload_n hx dL_isWell_139 rfl) ?_
  refine z_lc (zd_iload hx dL_isWell_140) ?_
  refine z_lc (zd_iconst hx dL_isWell_142 (by decide)) ?_
  refine z_lc (zd_isub hx dL_isWell_143) ?_
  refine z_lc (zd_iload hx dL_isWell_144) ?_
  refine z_lc (zd_iconst hx dL_isWell_146 (by decide)) ?_
  refine z_lc (zd_callv hx hcs hT2 (Nat.zero_le _) (Nat.zero_le _) (by decide) dL_isWell_147 zw_24) ?_
  refine z_lc (zd_iload hx dL_isWell_150) ?_
  refine z_lc (zd_isub hx dL_isWell_152) ?_
  refine z_lc (zd_aload_n hx dL_isWell_153 rfl) ?_
  refine z_lc (zd_bipush hx dL_isWell_154 (by decide)) ?_
  refine z_lc (zd_callv hx hcs hT2 (Nat.zero_le _) (Nat.zero_le _) (by decide) dL_isWell_156 zw_19) ?_
  refine z_lc (zd_icge hx dL_isWell_159 (by decide)) ?_
  refine z_lc (zd_iload hx dL_isWell_162) ?_
  refine z_lc (zd_iconst hx dL_isWell_164 (by decide)) ?_
  refine z_lc (zd_icge hx dL_isWell_165 (by decide)) ?_
  refine z_lc (zd_aload_n hx dL_isWell_168 rfl) ?_
  refine z_lc (zd_iload hx dL_isWell_169) ?_
  refine z_lc (zd_iconst hx dL_isWell_171 (by decide)) ?_
  refine z_lc (zd_iadd hx dL_isWell_172) ?_
  refine z_lc (zd_iload hx dL_isWell_173) ?_
  refine z_lc (zd_iconst hx dL_isWell_175 (by decide)) ?_
  refine z_lc (zd_callv hx hcs hT2 (Nat.zero_le _) (Nat.zero_le _) (by decide) dL_isWell_176 zw_24) ?_
  refine z_lc (zd_iconst hx dL_isWell_179 (by decide)) ?_
  refine z_lc (zd_icne hx dL_isWell_180 (by decide)) ?_
  refine z_lc (zd_aload_n hx dL_isWell_183 rfl) ?_
  refine z_lc (zd_iload hx dL_isWell_184) ?_
  refine z_lc (zd_iconst hx dL_isWell_186 (by decide)) ?_
  refine z_lc (zd_iadd hx dL_isWell_187) ?_
  refine z_lc (zd_iload hx dL_isWell_188) ?_
  refine z_lc (zd_iconst hx dL_isWell_190 (by decide)) ?_
  refine z_lc (zd_callv hx hcs hT2 (Nat.zero_le _) (Nat.zero_le _) (by decide) dL_isWell_191 zw_24) ?_
  refine z_lc (zd_iload hx dL_isWell_194) ?_
  refine z_lc (zd_isub hx dL_isWell_196) ?_
  refine z_lc (zd_aload_n hx dL_isWell_197 rfl) ?_
  refine z_lc (zd_bipush hx dL_isWell_198 (by decide)) ?_
  refine z_lc (zd_callv hx hcs hT2 (Nat.zero_le _) (Nat.zero_le _) (by decide) dL_isWell_200 zw_19) ?_
  refine z_lc (zd_iclt hx dL_isWell_203 (by decide)) ?_
  refine z_lc (zd_iconst hx dL_isWell_206 (by decide)) ?_
  refine z_lc (zd_goto hx dL_isWell_207 (by decide)) ?_
  refine z_lc (zd_iconst hx dL_isWell_210 (by decide)) ?_
  refine z_lc (zd_istore hx dL_isWell_211) ?_
  refine z_lc (zd_iload hx dL_isWell_213) ?_
  refine z_lc (zd_iload hx dL_isWell_215) ?_
  refine z_lc (zd_iadd hx dL_isWell_217) ?_
  refine z_lc (zd_istore hx dL_isWell_218) ?_
  refine z_lc (zd_iload_n hx dL_isWell_220 rfl) ?_
  refine z_lc (zd_iload hx dL_isWell_221) ?_
  refine z_lc (zd_ifeq hx dL_isWell_223 (by decide)) ?_
  refine z_lc (zd_iconst hx dL_isWell_226 (by decide)) ?_
  refine z_lc (zd_goto hx dL_isWell_227 (by decide)) ?_
  refine z_lc (zd_iconst hx dL_isWell_230 (by decide)) ?_
  refine z_lc (zd_iadd hx dL_isWell_231) ?_
  refine z_lc (zd_istore_n hx dL_isWell_232 rfl) ?_
  refine z_lc (zd_iload_n hx dL_isWell_233 rfl) ?_
  refine z_lc (zd_iload hx dL_isWell_234) ?_
  refine z_lc (zd_ifeq hx dL_isWell_236 (by decide)) ?_
  refine z_lc (zd_iconst hx dL_isWell_239 (by decide)) ?_
  refine z_lc (zd_goto hx dL_isWell_240 (by decide)) ?_
  refine z_lc (zd_iconst hx dL_isWell_243 (by decide)) ?_
  refine z_lc (zd_iadd hx dL_isWell_244) ?_
  refine z_lc (zd_istore_n hx dL_isWell_245 rfl) ?_
  refine z_lc (zd_iload hx dL_isWell_246) ?_
  refine z_lc (zd_iload hx dL_isWell_248) ?_
  refine z_lc (zd_ifeq hx dL_isWell_250 (by decide)) ?_
  refine z_lc (zd_iconst hx dL_isWell_253 (by decide)) ?_
  refine z_lc (zd_goto hx dL_isWell_254 (by decide)) ?_
  refine z_lc (zd_iconst hx dL_isWell_257 (by decide)) ?_
  refine z_lc (zd_iadd hx dL_isWell_258) ?_
  refine z_lc (zd_istore hx dL_isWell_259) ?_
  refine z_lc (zd_iload hx dL_isWell_261) ?_
  refine z_lc (zd_ifeq hx dL_isWell_263 (by decide)) ?_
  refine z_lc (zd_iload hx dL_isWell_266) ?_
  refine z_lc (zd_goto hx dL_isWell_268 (by decide)) ?_
  refine z_lc (zd_iload hx dL_isWell_271) ?_
  refine z_lc (zd_istore hx dL_isWell_273) ?_
  refine z_lc (zd_iload hx dL_isWell_275) ?_
  refine z_lc (zd_iflt hx dL_isWell_277 (by decide)) ?_
  refine z_lc (zd_iload hx dL_isWell_280) ?_
  refine z_lc (zd_bipush hx dL_isWell_282 (by decide)) ?_
  refine z_lc (zd_icge hx dL_isWell_284 (by decide)) ?_
  refine z_lc (zd_aload_n hx dL_isWell_287 rfl) ?_
  refine z_lc (zd_iload hx dL_isWell_288) ?_
  refine z_lc (zd_iload hx dL_isWell_290) ?_
  refine z_lc (zd_iconst hx dL_isWell_292 (by decide)) ?_
  refine z_lc (zd_callv hx hcs hT2 (Nat.zero_le _) (Nat.zero_le _) (by decide) dL_isWell_293 zw_24) ?_
  refine z_lc (zd_aload_n hx dL_isWell_296 rfl) ?_
  refine z_lc (zd_bipush hx dL_isWell_297 (by decide)) ?_
  refine z_lc (zd_callv hx hcs hT2 (Nat.zero_le _) (Nat.zero_le _) (by decide) dL_isWell_299 zw_19) ?_
  refine z_lc (zd_iload hx dL_isWell_302) ?_
  refine z_lc (zd_isub hx dL_isWell_304) ?_
  refine z_lc (zd_icne hx dL_isWell_305 (by decide)) ?_
  refine z_lc (zd_iload hx dL_isWell_308) ?_
  refine z_lc (zd_iload hx dL_isWell_310) ?_
  refine z_lc (zd_ifle hx dL_isWell_312 (by decide)) ?_
  refine z_lc (zd_iload hx dL_isWell_315) ?_
  refine z_lc (zd_bipush hx dL_isWell_317 (by decide)) ?_
  refine z_lc (zd_icge hx dL_isWell_319 (by decide)) ?_
  refine z_lc (zd_iload hx dL_isWell_322) ?_
  refine z_lc (zd_ifne hx dL_isWell_324 (by decide)) ?_
  refine z_lc (zd_iload hx dL_isWell_327) ?_
  refine z_lc (zd_aload_n hx dL_isWell_329 rfl) ?_
  refine z_lc (zd_iload hx dL_isWell_330) ?_
  refine z_lc (zd_iload hx dL_isWell_332) ?_
  refine z_lc (zd_iconst hx dL_isWell_334 (by decide)) ?_
  refine z_lc (zd_isub hx dL_isWell_335) ?_
  refine z_lc (zd_iconst hx dL_isWell_336 (by decide)) ?_
  refine z_lc (zd_callv hx hcs hT2 (Nat.zero_le _) (Nat.zero_le _) (by decide) dL_isWell_337 zw_24) ?_
  refine z_lc (zd_icle hx dL_isWell_340 (by decide)) ?_
  refine z_lc (zd_iload hx dL_isWell_343) ?_
  refine z_lc (zd_aload_n hx dL_isWell_345 rfl) ?_
  refine z_lc (zd_iload hx dL_isWell_346) ?_
  refine z_lc (zd_iload hx dL_isWell_348) ?_
  refine z_lc (zd_iconst hx dL_isWell_350 (by decide)) ?_
  refine z_lc (zd_iadd hx dL_isWell_351) ?_
  refine z_lc (zd_iconst hx dL_isWell_352 (by decide)) ?_
  refine z_lc (zd_callv hx hcs hT2 (Nat.zero_le _) (Nat.zero_le _) (by decide) dL_isWell_353 zw_24) ?_
  refine z_lc (zd_icle hx dL_isWell_356 (by decide)) ?_
  refine z_lc (zd_iconst hx dL_isWell_359 (by decide)) ?_
  refine z_lc (zd_goto hx dL_isWell_360 (by decide)) ?_
  refine z_lc (zd_iconst hx dL_isWell_363 (by decide)) ?_
  refine z_lc (zd_icne hx dL_isWell_364 (by decide)) ?_
  refine z_lc (zd_iload hx dL_isWell_367) ?_
  refine z_lc (zd_iload hx dL_isWell_369) ?_
  refine z_lc (zd_ifle hx dL_isWell_371 (by decide)) ?_
  refine z_lc (zd_iload hx dL_isWell_374) ?_
  refine z_lc (zd_bipush hx dL_isWell_376 (by decide)) ?_
  refine z_lc (zd_icge hx dL_isWell_378 (by decide)) ?_
  refine z_lc (zd_iload hx dL_isWell_381) ?_
  refine z_lc (zd_ifne hx dL_isWell_383 (by decide)) ?_
  refine z_lc (zd_iload hx dL_isWell_386) ?_
  refine z_lc (zd_ifne hx dL_isWell_388 (by decide)) ?_
  refine z_lc (zd_iload hx dL_isWell_391) ?_
  refine z_lc (zd_ifeq hx dL_isWell_393 (by decide)) ?_
  refine z_lc (zd_iconst hx dL_isWell_396 (by decide)) ?_
  refine z_lc (zd_goto hx dL_isWell_397 (by decide)) ?_
  refine z_lc (zd_iconst hx dL_isWell_400 (by decide)) ?_
  refine z_lc (zd_icne hx dL_isWell_401 (by decide)) ?_
  refine z_lc (zd_aload_n hx dL_isWell_404 rfl) ?_
  refine z_lc (zd_iload hx dL_isWell_405) ?_
  refine z_lc (zd_iconst hx dL_isWell_407 (by decide)) ?_
  refine z_lc (zd_callv hx hcs hT2 (Nat.zero_le _) (Nat.zero_le _) (by decide) dL_isWell_408 zw_33) ?_
  refine z_lc (zd_iload hx dL_isWell_411) ?_
  refine z_lc (zd_ishr hx dL_isWell_413) ?_
  refine z_lc (zd_iconst hx dL_isWell_414 (by decide)) ?_
  refine z_lc (zd_iand hx dL_isWell_415) ?_
  refine z_lc (zd_iload hx dL_isWell_416) ?_
  refine z_lc (zd_ifeq hx dL_isWell_418 (by decide)) ?_
  refine z_lc (zd_iconst hx dL_isWell_421 (by decide)) ?_
  refine z_lc (zd_goto hx dL_isWell_422 (by decide)) ?_
  refine z_lc (zd_iconst hx dL_isWell_425 (by decide)) ?_
  refine z_lc (zd_icne hx dL_isWell_426 (by decide)) ?_
  refine z_lc (zd_iconst hx dL_isWell_429 (by decide)) ?_
  refine z_lc (zd_goto hx dL_isWell_430 (by decide)) ?_
  refine z_lc (zd_iconst hx dL_isWell_433 (by decide)) ?_
  refine z_lc (zd_istore hx dL_isWell_434) ?_
  refine z_lc (zd_iinc hx dL_isWell_436 (by decide)) ?_
  refine z_lc (zd_goto hx dL_isWell_439 (by decide)) ?_
  refine z_lc (zd_iload_n hx dL_isWell_442 rfl) ?_
  refine z_lc (zd_iload hx dL_isWell_443) ?_
  refine z_lc (zd_iadd hx dL_isWell_445) ?_
  refine z_lc (zd_istore_n hx dL_isWell_446 rfl) ?_
  refine z_lc (zd_iload hx dL_isWell_447) ?_
  refine z_lc (zd_ifeq hx dL_isWell_449 (by decide)) ?_
  refine z_lc (zd_aload_n hx dL_isWell_452 rfl) ?_
  refine z_lc (zd_iload hx dL_isWell_453) ?_
  refine z_lc (zd_iconst hx dL_isWell_455 (by decide)) ?_
  refine z_lc (zd_callv hx hcs hT2 (Nat.zero_le _) (Nat.zero_le _) (by decide) dL_isWell_456 zw_33) ?_
  refine z_lc (zd_iload hx dL_isWell_459) ?_
  refine z_lc (zd_icne hx dL_isWell_461 (by decide)) ?_
  refine z_lc (zd_aload_n hx dL_isWell_464 rfl) ?_
  refine z_lc (zd_iload hx dL_isWell_465) ?_
  refine z_lc (zd_iconst hx dL_isWell_467 (by decide)) ?_
  refine z_lc (zd_callv hx hcs hT2 (Nat.zero_le _) (Nat.zero_le _) (by decide) dL_isWell_468 zw_33) ?_
  refine z_lc (zd_iload hx dL_isWell_471) ?_
  refine z_lc (zd_icne hx dL_isWell_473 (by decide)) ?_
  refine z_lc (zd_aload_n hx dL_isWell_476 rfl) ?_
  refine z_lc (zd_iload hx dL_isWell_477) ?_
  refine z_lc (zd_bipush hx dL_isWell_479 (by decide)) ?_
  refine z_lc (zd_callv hx hcs hT2 (Nat.zero_le _) (Nat.zero_le _) (by decide) dL_isWell_481 zw_33) ?_
  refine z_lc (zd_sipush hx dL_isWell_484 (by decide)) ?_
  refine z_lc (zd_icne hx dL_isWell_487 (by decide)) ?_
  refine z_lc (zd_iconst hx dL_isWell_490 (by decide)) ?_
  refine z_lc (zd_goto hx dL_isWell_491 (by decide)) ?_
  refine z_lc (zd_iconst hx dL_isWell_494 (by decide)) ?_
  refine z_lc (zd_aload_n hx dL_isWell_495 rfl) ?_
  refine z_lc (zd_iload hx dL_isWell_496) ?_
  refine z_lc (zd_iconst hx dL_isWell_498 (by decide)) ?_
  refine z_lc (zd_callv hx hcs hT2 (Nat.zero_le _) (Nat.zero_le _) (by decide) dL_isWell_499 zw_33) ?_
  refine z_lc (zd_ifne hx dL_isWell_502 (by decide)) ?_
  refine z_lc (zd_iconst hx dL_isWell_505 (by decide)) ?_
  refine z_lc (zd_goto hx dL_isWell_506 (by decide)) ?_
  refine z_lc (zd_iconst hx dL_isWell_509 (by decide)) ?_
  refine z_lc (zd_icne hx dL_isWell_510 (by decide)) ?_
  refine z_lc (zd_iconst hx dL_isWell_513 (by decide)) ?_
  refine z_lc (zd_goto hx dL_isWell_514 (by decide)) ?_
  refine z_lc (zd_iconst hx dL_isWell_517 (by decide)) ?_
  refine z_lc (zd_istore hx dL_isWell_518) ?_
  refine z_lc (zd_iinc hx dL_isWell_520 (by decide)) ?_
  refine z_lc (zd_goto hx dL_isWell_523 (by decide)) ?_
  refine z_lc (zd_iload hx dL_isWell_526) ?_
  refine z_lc (zd_ifeq hx dL_isWell_528 (by decide)) ?_
  refine z_lc (zd_iload_n hx dL_isWell_531 rfl) ?_
  refine z_lc (zd_aload_n hx dL_isWell_532 rfl) ?_
  refine z_lc (zd_iconst hx dL_isWell_533 (by decide)) ?_
  refine z_lc (zd_callv hx hcs hT2 (Nat.zero_le _) (Nat.zero_le _) (by decide) dL_isWell_534 zw_19) ?_
  refine z_lc (zd_icne hx dL_isWell_537 (by decide)) ?_
  refine z_lc (zd_iload_n hx dL_isWell_540 rfl) ?_
  refine z_lc (zd_aload_n hx dL_isWell_541 rfl) ?_
  refine z_lc (zd_bipush hx dL_isWell_542 (by decide)) ?_
  refine z_lc (zd_callv hx hcs hT2 (Nat.zero_le _) (Nat.zero_le _) (by decide) dL_isWell_544 zw_19) ?_
  refine z_lc (zd_icne hx dL_isWell_547 (by decide)) ?_
  refine z_lc (zd_iload_n hx dL_isWell_550 rfl) ?_
  refine z_lc (zd_aload_n hx dL_isWell_551 rfl) ?_
  refine z_lc (zd_bipush hx dL_isWell_552 (by decide)) ?_
  refine z_lc (zd_callv hx hcs hT2 (Nat.zero_le _) (Nat.zero_le _) (by decide) dL_isWell_554 zw_19) ?_
  refine z_lc (zd_icne hx dL_isWell_557 (by decide)) ?_
  refine z_lc (zd_iload hx dL_isWell_560) ?_
  refine z_lc (zd_aload_n hx dL_isWell_562 rfl) ?_
  refine z_lc (zd_bipush hx dL_isWell_563 (by decide)) ?_
  refine z_lc (zd_callv hx hcs hT2 (Nat.zero_le _) (Nat.zero_le _) (by decide) dL_isWell_565 zw_19) ?_
  refine z_lc (zd_icne hx dL_isWell_568 (by decide)) ?_
  refine z_lc (zd_aload_n hx dL_isWell_571 rfl) ?_
  refine z_lc (zd_iconst hx dL_isWell_572 (by decide)) ?_
  refine z_lc (zd_bipush hx dL_isWell_573 (by decide)) ?_
  refine z_lc (zd_callv hx hcs hT2 (Nat.zero_le _) (Nat.zero_le _) (by decide) dL_isWell_575 zw_36) ?_
  refine z_lc (zd_aload_n hx dL_isWell_578 rfl) ?_
  refine z_lc (zd_bipush hx dL_isWell_579 (by decide)) ?_
  refine z_lc (zd_bipush hx dL_isWell_581 (by decide)) ?_
  refine z_lc (zd_callv hx hcs hT2 (Nat.zero_le _) (Nat.zero_le _) (by decide) dL_isWell_583 zw_36) ?_
  refine z_lc (zd_iadd hx dL_isWell_586) ?_
  refine z_lc (zd_iload_n hx dL_isWell_587 rfl) ?_
  refine z_lc (zd_icne hx dL_isWell_588 (by decide)) ?_
  refine z_lc (zd_iconst hx dL_isWell_591 (by decide)) ?_
  refine z_lc (zd_goto hx dL_isWell_592 (by decide)) ?_
  refine z_lc (zd_iconst hx dL_isWell_595 (by decide)) ?_
  refine z_lc (zd_zret hx dL_isWell_596 hr hlk) ?_
  exact z_ln
set_option maxRecDepth 20000 in
theorem zn_L_law {p : Program} {l : Launch} {e : Env} {R : Room} {s : State} {m : MethodId} {args : Array Value} {below : List Frame} {meth : Method} {c : Code} {E : z_D} {cells slots : Nat} {QF : State → Prop} {Rp : z_P} {C : z_C} (hx : z_Cx p s m args c E code RL lw_tbl) (hcs : z_CS l R E C) (hcl : cells ≤ R.cells) (hsl : slots ≤ R.slots) (hret : z_Snd p l e R s m args below meth c E cells slots QF Rp C 112 zo_zret) : ∀ pc, z_Snd p l e R s m args below meth c E cells slots QF Rp C pc (zc_L_law pc) := by
  have hT2 : ∀ w ∈ bb_TB, w ∈ lw_tbl := fun w h => (List.mem_filter.mp h).1
  unfold zc_L_law
  refine z_lkS (fun pc => zd_fail) ?_
  refine z_lc (zd_iconst hx dL_law_16 (by decide)) ?_
  refine z_lc (zd_istore_n hx dL_law_17 rfl) ?_
  refine z_lc (zd_iconst hx dL_law_18 (by decide)) ?_
  refine z_lc (zd_istore hx dL_law_19) ?_
  refine z_lc (zd_iload hx dL_law_21) ?_
  refine z_lc (zd_bipush hx dL_law_23 (by decide)) ?_
  refine z_lc (zd_icge hx dL_law_25 (by decide)) ?_
  refine z_lc (zd_iload_n hx dL_law_28 rfl) ?_
  refine z_lc (zd_ifeq hx dL_law_29 (by decide)) ?_
  refine z_lc (zd_aload_n hx dL_law_32 rfl) ?_
  refine z_lc (zd_aload_n hx dL_law_33 rfl) ?_
  refine z_lc (zd_aload_n hx dL_law_34 rfl) ?_
  refine z_lc (zd_iload hx dL_law_35) ?_
  refine z_lc (zd_callc hx hcs hT2 hcl hsl dL_law_37 zw_37 zmS_0) ?_
  refine z_lc (zd_aload_n hx dL_law_40 rfl) ?_
  refine z_lc (zd_iload hx dL_law_41) ?_
  refine z_lc (zd_iconst hx dL_law_43 (by decide)) ?_
  refine z_lc (zd_iadd hx dL_law_44) ?_
  refine z_lc (zd_callc hx hcs hT2 hcl hsl dL_law_45 zw_37 zmS_0) ?_
  refine z_lc (zd_iconst hx dL_law_48 (by decide)) ?_
  refine z_lc (zd_ishr hx dL_law_49) ?_
  refine z_lc (zd_call hx hcs hT2 hcl hsl dL_law_50 zw_38 zmS_2 (by decide)) ?_
  refine z_lc (zd_ifeq hx dL_law_53 (by decide)) ?_
  refine z_lc (zd_iload hx dL_law_56) ?_
  refine z_lc (zd_iconst hx dL_law_58 (by decide)) ?_
  refine z_lc (zd_irem hx dL_law_59) ?_
  refine z_lc (zd_ifgt hx dL_law_60 (by decide)) ?_
  refine z_lc (zd_aload_n hx dL_law_63 rfl) ?_
  refine z_lc (zd_call hx hcs hT2 hcl hsl dL_law_64 zw_39 zmS_7 (by decide)) ?_
  refine z_lc (zd_ifeq hx dL_law_67 (by decide)) ?_
  refine z_lc (zd_iconst hx dL_law_70 (by decide)) ?_
  refine z_lc (zd_goto hx dL_law_71 (by decide)) ?_
  refine z_lc (zd_iconst hx dL_law_74 (by decide)) ?_
  refine z_lc (zd_istore_n hx dL_law_75 rfl) ?_
  refine z_lc (zd_iinc hx dL_law_76 (by decide)) ?_
  refine z_lc (zd_goto hx dL_law_79 (by decide)) ?_
  refine z_lc (zd_iload_n hx dL_law_82 rfl) ?_
  refine z_lc (zd_ifeq hx dL_law_83 (by decide)) ?_
  refine z_lc (zd_aload_n hx dL_law_86 rfl) ?_
  refine z_lc (zd_call hx hcs hT2 hcl hsl dL_law_87 zw_39 zmS_7 (by decide)) ?_
  refine z_lc (zd_ifeq hx dL_law_90 (by decide)) ?_
  refine z_lc (zd_aload_n hx dL_law_93 rfl) ?_
  refine z_lc (zd_aload_n hx dL_law_94 rfl) ?_
  refine z_lc (zd_aload_n hx dL_law_95 rfl) ?_
  refine z_lc (zd_bipush hx dL_law_96 (by decide)) ?_
  refine z_lc (zd_callc hx hcs hT2 hcl hsl dL_law_98 zw_37 zmS_0) ?_
  refine z_lc (zd_call hx hcs hT2 hcl hsl dL_law_101 zw_40 zmS_6 (by decide)) ?_
  refine z_lc (zd_ifeq hx dL_law_104 (by decide)) ?_
  refine z_lc (zd_iconst hx dL_law_107 (by decide)) ?_
  refine z_lc (zd_goto hx dL_law_108 (by decide)) ?_
  refine z_lc (zd_iconst hx dL_law_111 (by decide)) ?_
  refine z_lc (hret) ?_
  exact z_ln
theorem zw_41 : Cond.constant RL 7 2124796857 ∈ bb_TB := bb_tb (i := 202) (by decide +kernel) rfl
set_option maxHeartbeats 4000000 in
/-- the script's cell -/
theorem z_cell_met (l : Launch) {E : z_D} {T : z_T} {k : Int32} {d : Nat} (hk : 0 ≤ k) : Met l (z_md 0).1 (z_ws 0) (z_rm d) (va_Pc [.ref E.b, .int k] (z_In E T)) (z_Q E (fun r' T2 => r' = z_F E k ∧ T2 = T)) 0 0 (z_B E) := by
  refine Met.ofW (cc := cL_cell) (maxL := 2) (ret := some .int) (by decide +kernel) rfl ?_
  intro p e s m args below meth c s₁ B hml hv
  obtain ⟨rfl, hW, hE⟩ := hv
  have hx := B.exec
  have hb := B.bytes
  have hr := B.returns
  have hlocks := B.notSynchronized
  have hts := atoms_spec (ws := z_ws 0) B.pre
  have hown : s.vm.findClass RL = some m.cls := findClass_of_methodNamed B.named
  obtain ⟨-, -, -, -, -, hX, hbl, hb0, hL⟩ := hE
  have hbA : ¬ z_B E E.b := Nat.not_le.mpr hb0
  have hS : va_S (z_B E) s.heap s.heap [] := va_S.rf
  have hl := lv_entry ([.ref E.b, .int k]) (n := 2) (Nat.le_of_ble_eq_true rfl)
  rw [lg_entry_eq]
  generalize (lg_sl ([.ref E.b, .int k]) ++ List.replicate (2 - (lg_sl ([.ref E.b, .int k])).length) Slot.unset).toArray = ls at hl ⊢
  have hl : lv_has ls 2 [(0, .ref E.b), (1, .int k)] := hl
  have k0 : 0 ≤ k.toInt := by
    have := (bn_le 0 k).mp hk
    exact this
  have eL : (nI E.L).toInt = (E.L : Int) := bn_ti (by omega)
  refine lv_iload_n hx hb dL_cell_0 rfl (lv_at hl 1 rfl) ?_
  refine lv_aload_n hx hb dL_cell_1 rfl (lv_at hl 0 rfl) ?_
  refine va_slen hx hb hX hbl hbA hS dL_cell_2 ?_
  refine lv_icmp_ge (tgt := 12) hx hb dL_cell_3 (by decide) (fun q => ?_) (fun q => ?_)
  · have q1 : (E.L : Int) ≤ k.toInt := by
      have := (bn_le _ _).mp q
      rw [← eL]
      exact this
    refine lv_ldc hx hb hown (hts _ (List.mem_cons_of_mem _ zw_41)) dL_cell_12 ?_
    refine lv_iload_n hx hb dL_cell_14 rfl (lv_at hl 1 rfl) ?_
    refine lv_sipush (v := 1103) hx hb dL_cell_15 (by decide) ?_
    refine lv_iadd hx hb dL_cell_18 ?_
    refine lv_imul hx hb dL_cell_19 ?_
    exact W.iret hx hb hr (fun t ht hW2 => ⟨⟨_, T, ⟨(by unfold z_F; rw [if_neg (by omega)]), rfl⟩, rfl, by rw [ht]; exact hW⟩, hS.F ht⟩) hS.2.2 dL_cell_20 hlocks
  · have q1 : k.toInt < (E.L : Int) := by
      have := (fun z => q ((bn_le _ _).mpr z))
      rw [← eL]
      exact Int.not_le.mp this
    refine lv_aload_n hx hb dL_cell_6 rfl (lv_at hl 0 rfl) ?_
    refine lv_iload_n hx hb dL_cell_7 rfl (lv_at hl 1 rfl) ?_
    have hin : vp_in k E.L := by
      rw [bv_nI k0]
      exact vp_in_nI (by unfold bv_N; omega) (by omega)
    refine va_sld hx hb hX hbl hbA hS hin dL_cell_8 ?_
    refine lv_goto (tgt := 20) hx hb dL_cell_9 (by decide) ?_
    exact W.iret hx hb hr (fun t ht hW2 => ⟨⟨_, T, ⟨(by unfold z_F; rw [if_pos q1]), rfl⟩, rfl, by rw [ht]; exact hW⟩, hS.F ht⟩) hS.2.2 dL_cell_20 hlocks
def z_SM (y : Nat) : Prop := plainName (z_md y).1.cls = true ∧ z_ml y = (z_md y).2.2.1 ∧ ∀ {p : Program} {l : Launch} {e : Env} {R : Room} {s : State} {m : MethodId} {args : Array Value} {below : List Frame} {meth : Method} {c : Code} {E : z_D} {Rp : z_P} {C : z_C}, z_Cx p s m args c E (z_md y).2.1 (z_md y).1.cls (z_ws y) → z_CS l R E C → meth.sig.returnType = (z_md y).2.2.2 → meth.locks = false → ∀ pc, z_Snd p l e R s m args below meth c E 0 0 (MQ below (z_Q E Rp) args s 0 0 (z_B E)) Rp C pc (z_pg y pc)
theorem zsm_1 : z_SM 1 := ⟨by decide +kernel, by decide +kernel, fun hx hcs hr hlk => zn_L_up hx hcs hr hlk⟩
theorem zsm_2 : z_SM 2 := ⟨by decide +kernel, by decide +kernel, fun hx hcs hr hlk => zn_L_isStep hx hcs hr hlk⟩
theorem zsm_3 : z_SM 3 := ⟨by decide +kernel, by decide +kernel, fun hx hcs hr hlk => zn_L_areSame hx hcs hr hlk⟩
theorem zsm_4 : z_SM 4 := ⟨by decide +kernel, by decide +kernel, fun hx hcs hr hlk => zn_L_isBalanced hx hcs hr hlk⟩
theorem zsm_5 : z_SM 5 := ⟨by decide +kernel, by decide +kernel, fun hx hcs hr hlk => zn_L_areEnded hx hcs hr hlk⟩
theorem zsm_6 : z_SM 6 := ⟨by decide +kernel, by decide +kernel, fun hx hcs hr hlk => zn_L_areAlike hx hcs hr hlk⟩
theorem zsm_7 : z_SM 7 := ⟨by decide +kernel, by decide +kernel, fun hx hcs hr hlk => zn_L_isWell hx hcs hr hlk⟩
theorem z_SM_all : ∀ y, 1 ≤ y → y < 8 → z_SM y := fun y h1 h2 => by
  rcases (show y = 1 ∨ y = 2 ∨ y = 3 ∨ y = 4 ∨ y = 5 ∨ y = 6 ∨ y = 7 by omega) with rfl | rfl | rfl | rfl | rfl | rfl | rfl
  · exact zsm_1
  · exact zsm_2
  · exact zsm_3
  · exact zsm_4
  · exact zsm_5
  · exact zsm_6
  · exact zsm_7
theorem z_base_lo {F : Int32 → Int32} {y : Nat} {as : List bb_V} {T T' : z_T} {r : Int32} (hy : y < 8) (h : z_base F y as T = some (r, T')) : y = 0 ∧ ∃ k : Int32, 0 ≤ k ∧ as = [bb_R 42 0, bb_I k] ∧ r = F k ∧ T' = T := by
  have hapi : ∀ S as, z_api S y as = none := fun S as => by
    unfold z_api
    split <;> first | rfl | omega
  unfold z_base at h
  split at h
  · rw [hapi] at h; cases h
  · rw [hapi] at h; cases h
  · rename_i k
    split at h
    · rename_i q
      cases h
      exact ⟨q.1, k, q.2, rfl, rfl, rfl⟩
    · cases h
  · cases h
theorem z_CS_of (l : Launch) {E : z_D} {R : Room} {d : Nat} (hR : d + 9 ≤ R.frames ∧ 36 * (d + 9) ≤ R.locals) (h : ∀ (y : Nat) (as : List bb_V) (T : z_T) (r : Int32) (T' : z_T), y < 8 → z_CL (z_F E) d y as T r T' → (∀ v ∈ as, bb_ok v) → (bb_nj as = true ∧ as.length ≤ (z_md y).2.2.1) → Met l (z_md y).1 (z_ws y) (z_rm d) (va_Pc (as.map (bb_cv (z_ad E))) (z_In E T)) (z_Q E (fun r' T2 => r' = r ∧ T2 = T')) 0 0 (z_B E)) : z_CS l R E (z_CL (z_F E) d) := by
  refine ⟨fun y as T r T' hy hC h1 h2 => ⟨z_rm d, ⟨rfl, rfl⟩, ⟨by show d + 8 + 1 ≤ _; omega, by show 36 * (d + 8) + 36 ≤ _; omega⟩, h y as T r T' hy hC h1 h2⟩, fun y as T r T' hy hC => ⟨z_F E, ?_⟩, by omega, by omega⟩
  cases d with
  | zero => exact hC
  | succ d =>
    have h0 : (if 1 ≤ y ∧ y < 9 then z_Y (z_CL (z_F E) d) (z_pg y) (fun r' T2 => r' = r ∧ T2 = T') 0 (bb_lo (z_ml y) as) [] T else z_base (z_F E) y as T = some (r, T')) := hC
    rwa [if_neg (by omega)] at h0
theorem z_met (l : Launch) {E : z_D} : ∀ (d : Nat) (y : Nat) (as : List bb_V) (T : z_T) (r : Int32) (T' : z_T), y < 8 → z_CL (z_F E) d y as T r T' → (∀ v ∈ as, bb_ok v) → (bb_nj as = true ∧ as.length ≤ (z_md y).2.2.1) → Met l (z_md y).1 (z_ws y) (z_rm d) (va_Pc (as.map (bb_cv (z_ad E))) (z_In E T)) (z_Q E (fun r' T2 => r' = r ∧ T2 = T')) 0 0 (z_B E) := by
  intro d
  induction d with
  | zero =>
    intro y as T r T' hy h hok hn
    obtain ⟨rfl, k, hk, rfl, rfl, rfl⟩ := z_base_lo hy (show z_base (z_F E) y as T = some (r, T') from h)
    exact z_cell_met l hk
  | succ d ih =>
    intro y as T r T' hy h hok hn
    have h0 : (if 1 ≤ y ∧ y < 9 then z_Y (z_CL (z_F E) d) (z_pg y) (fun r' T2 => r' = r ∧ T2 = T') 0 (bb_lo (z_ml y) as) [] T else z_base (z_F E) y as T = some (r, T')) := h
    by_cases hy2 : 1 ≤ y ∧ y < 9
    · rw [if_pos hy2] at h0
      have hcs : z_CS l (z_rm (d + 1)) E (z_CL (z_F E) d) := z_CS_of l ⟨by show d + 9 ≤ d + 1 + 8; omega, by show 36 * (d + 9) ≤ 36 * (d + 1 + 8); omega⟩ ih
      obtain ⟨s1, s2, s3⟩ := z_SM_all y hy2.1 hy
      obtain ⟨hnj, hlen⟩ := hn
      refine Met.ofW (cc := (z_md y).2.1) (maxL := (z_md y).2.2.1) (ret := (z_md y).2.2.2) s1 rfl ?_
      intro p e s m args below meth c s₁ B hml hv
      obtain ⟨rfl, hW, hE⟩ := hv
      have hts := atoms_spec (ws := z_ws y) B.pre
      have hown : s.vm.findClass (z_md y).1.cls = some m.cls := findClass_of_methodNamed B.named
      have hx : z_Cx p s m (as.map (bb_cv (z_ad E))).toArray c E (z_md y).2.1 (z_md y).1.cls (z_ws y) := ⟨B.exec, B.bytes, hown, hts, hE⟩
      have hG := h0 (z_G p l e (z_rm (d + 1)) s m (as.map (bb_cv (z_ad E))).toArray below meth c E 0 0 (MQ below (z_Q E (fun r' T2 => r' = r ∧ T2 = T')) (as.map (bb_cv (z_ad E))).toArray s 0 0 (z_B E))) (fun pc ls st T2 h2 => s3 hx hcs B.returns B.notSynchronized pc ls st T2 h2)
      rw [lg_entry_eq]
      have hL := bb_entry (ad := z_ad E) (n := (z_md y).2.2.1) hnj hok hlen
      rw [s2] at hG
      refine hG (fun v hv => absurd hv List.not_mem_nil) s.heap [] _ ?_ hW va_S.rf
      rw [hml]
      exact hL
    · rw [if_neg hy2] at h0
      obtain ⟨rfl, k, hk, rfl, rfl, rfl⟩ := z_base_lo hy h0
      exact z_cell_met l hk
