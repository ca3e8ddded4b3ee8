/-! SITES: each instruction of each method is the JVM's, by program (wip/p23/gen_sites.py) -/
theorem bb_inC {ws : List Cond} {ps : List Nat} (hp : ps.filterMap (fun i => lw_tbl[i]?) = ws) (h : ws.all goodWord = true) : ∀ w ∈ ws, w ∈ bb_TB := by
  intro w hw
  refine List.mem_filter.mpr ⟨?_, List.all_eq_true.mp h w hw⟩
  rw [← hp] at hw
  obtain ⟨i, -, hi⟩ := List.mem_filterMap.mp hw
  exact List.mem_of_getElem? hi
def bb_LS (P : Nat → bb_O → Prop) (L : List (Nat × bb_O)) : Prop := ∀ q ∈ L, P q.1 q.2
theorem bb_ln {P : Nat → bb_O → Prop} : bb_LS P [] := fun _ h => absurd h List.not_mem_nil
theorem bb_lc {P : Nat → bb_O → Prop} {pc : Nat} {o : bb_O} {L : List (Nat × bb_O)} (h : P pc o) (t : bb_LS P L) : bb_LS P ((pc, o) :: L) := List.forall_mem_cons.mpr ⟨h, t⟩
theorem bb_lkS {P : Nat → bb_O → Prop} (hf : ∀ pc, P pc bo_fail) : ∀ {L : List (Nat × bb_O)}, bb_LS P L → ∀ pc, P pc (bb_lk L pc)
  | [], _, pc => hf pc
  | (q, o) :: t, h, pc => by
    unfold bb_lk
    by_cases e : q = pc
    · rw [if_pos e, ← e]
      exact h (q, o) List.mem_cons_self
    · rw [if_neg e]
      exact bb_lkS hf (fun z hz => h z (List.mem_cons_of_mem _ hz)) pc
theorem wc_0 : ∀ w ∈ u_ws RX0 TX0 3, w ∈ bb_TB := bb_inC (ps := [117, 119, 121]) (by decide +kernel) (by decide +kernel)
theorem wc_1 : ∀ w ∈ u_ws RX1 TX1 3, w ∈ bb_TB := bb_inC (ps := [64, 66, 68]) (by decide +kernel) (by decide +kernel)
theorem wc_2 : ∀ w ∈ u_ws RX2 TX2 3, w ∈ bb_TB := bb_inC (ps := [163, 165, 167]) (by decide +kernel) (by decide +kernel)
theorem wc_3 : ∀ w ∈ u_ws RX3 TX3 2, w ∈ bb_TB := bb_inC (ps := [49, 51]) (by decide +kernel) (by decide +kernel)
theorem wc_4 : ∀ w ∈ u_ws RX4 TX4 7, w ∈ bb_TB := bb_inC (ps := [90, 92, 94, 96, 98, 100, 102]) (by decide +kernel) (by decide +kernel)
theorem wc_5 : ∀ w ∈ u_ws RX5 TX5 7, w ∈ bb_TB := bb_inC (ps := [135, 137, 139, 141, 143, 145, 147]) (by decide +kernel) (by decide +kernel)
theorem wc_6 : ∀ w ∈ u_ws RX6 TX6 9, w ∈ bb_TB := bb_inC (ps := [180, 182, 184, 186, 188, 190, 192, 194, 196]) (by decide +kernel) (by decide +kernel)
theorem wd_0 : Cond.code (bb_md 1).1 (bb_md 1).2.1 (bb_md 1).2.2.1 (bb_md 1).2.2.2 ∈ bb_TB := bb_tb (i := 244) (by decide +kernel) rfl
theorem wd_1 : Cond.initialized RJ6 ∈ bb_TB := bb_tb (i := 22) (by decide +kernel) rfl
theorem wd_2 : Cond.static (bb_md 1).1 ∈ bb_TB := bb_tb (i := 243) (by decide +kernel) rfl
theorem mS_1 : bb_mS 1 1 := ⟨⟨wd_2, wd_1, wd_0⟩, ⟨by decide +kernel, by decide +kernel, by decide +kernel⟩, by decide +kernel, fun _ => by decide +kernel⟩
theorem wd_3 : Cond.code (bb_md 2).1 (bb_md 2).2.1 (bb_md 2).2.2.1 (bb_md 2).2.2.2 ∈ bb_TB := bb_tb (i := 432) (by decide +kernel) rfl
theorem wd_4 : Cond.initialized RX6 ∈ bb_TB := bb_tb (i := 14) (by decide +kernel) rfl
theorem wd_5 : Cond.instanceMethod (bb_md 2).1 ∈ bb_TB := bb_tb (i := 430) (by decide +kernel) rfl
theorem wd_6 : Cond.selects (bb_md 2).1.cls (bb_md 2).1 (bb_md 2).1 ∈ bb_TB := bb_tb (i := 431) (by decide +kernel) rfl
theorem mV_2 : bb_mV 2 6 4 := ⟨⟨wd_5, wd_6, wd_4, wd_3⟩, ⟨by decide +kernel, by decide +kernel, by decide +kernel⟩, ⟨by decide +kernel, by decide +kernel⟩, ⟨by decide, by decide, by decide⟩, _, _, rfl⟩
theorem wd_7 : Cond.code (bb_md 3).1 (bb_md 3).2.1 (bb_md 3).2.2.1 (bb_md 3).2.2.2 ∈ bb_TB := bb_tb (i := 440) (by decide +kernel) rfl
theorem wd_8 : Cond.instanceMethod (bb_md 3).1 ∈ bb_TB := bb_tb (i := 438) (by decide +kernel) rfl
theorem wd_9 : Cond.selects (bb_md 3).1.cls (bb_md 3).1 (bb_md 3).1 ∈ bb_TB := bb_tb (i := 439) (by decide +kernel) rfl
theorem mV_3 : bb_mV 3 6 2 := ⟨⟨wd_8, wd_9, wd_4, wd_7⟩, ⟨by decide +kernel, by decide +kernel, by decide +kernel⟩, ⟨by decide +kernel, by decide +kernel⟩, ⟨by decide, by decide, by decide⟩, _, _, rfl⟩
theorem wd_10 : Cond.code (bb_md 4).1 (bb_md 4).2.1 (bb_md 4).2.2.1 (bb_md 4).2.2.2 ∈ bb_TB := bb_tb (i := 444) (by decide +kernel) rfl
theorem wd_11 : Cond.instanceMethod (bb_md 4).1 ∈ bb_TB := bb_tb (i := 442) (by decide +kernel) rfl
theorem wd_12 : Cond.selects (bb_md 4).1.cls (bb_md 4).1 (bb_md 4).1 ∈ bb_TB := bb_tb (i := 443) (by decide +kernel) rfl
theorem mV_4 : bb_mV 4 6 3 := ⟨⟨wd_11, wd_12, wd_4, wd_10⟩, ⟨by decide +kernel, by decide +kernel, by decide +kernel⟩, ⟨by decide +kernel, by decide +kernel⟩, ⟨by decide, by decide, by decide⟩, _, _, rfl⟩
theorem wd_13 : Cond.code (bb_md 5).1 (bb_md 5).2.1 (bb_md 5).2.2.1 (bb_md 5).2.2.2 ∈ bb_TB := bb_tb (i := 283) (by decide +kernel) rfl
theorem wd_14 : Cond.instanceMethod (bb_md 5).1 ∈ bb_TB := bb_tb (i := 281) (by decide +kernel) rfl
theorem wd_15 : Cond.selects (bb_md 5).1.cls (bb_md 5).1 (bb_md 5).1 ∈ bb_TB := bb_tb (i := 282) (by decide +kernel) rfl
theorem mV_5 : bb_mV 5 6 3 := ⟨⟨wd_14, wd_15, wd_4, wd_13⟩, ⟨by decide +kernel, by decide +kernel, by decide +kernel⟩, ⟨by decide +kernel, by decide +kernel⟩, ⟨by decide, by decide, by decide⟩, _, _, rfl⟩
theorem wd_16 : Cond.code (bb_md 6).1 (bb_md 6).2.1 (bb_md 6).2.2.1 (bb_md 6).2.2.2 ∈ bb_TB := bb_tb (i := 468) (by decide +kernel) rfl
theorem wd_17 : Cond.instanceMethod (bb_md 6).1 ∈ bb_TB := bb_tb (i := 466) (by decide +kernel) rfl
theorem wd_18 : Cond.selects (bb_md 6).1.cls (bb_md 6).1 (bb_md 6).1 ∈ bb_TB := bb_tb (i := 467) (by decide +kernel) rfl
theorem mV_6 : bb_mV 6 6 3 := ⟨⟨wd_17, wd_18, wd_4, wd_16⟩, ⟨by decide +kernel, by decide +kernel, by decide +kernel⟩, ⟨by decide +kernel, by decide +kernel⟩, ⟨by decide, by decide, by decide⟩, _, _, rfl⟩
theorem wd_19 : Cond.code (bb_md 7).1 (bb_md 7).2.1 (bb_md 7).2.2.1 (bb_md 7).2.2.2 ∈ bb_TB := bb_tb (i := 318) (by decide +kernel) rfl
theorem wd_20 : Cond.instanceMethod (bb_md 7).1 ∈ bb_TB := bb_tb (i := 316) (by decide +kernel) rfl
theorem wd_21 : Cond.selects (bb_md 7).1.cls (bb_md 7).1 (bb_md 7).1 ∈ bb_TB := bb_tb (i := 317) (by decide +kernel) rfl
theorem mV_7 : bb_mV 7 6 2 := ⟨⟨wd_20, wd_21, wd_4, wd_19⟩, ⟨by decide +kernel, by decide +kernel, by decide +kernel⟩, ⟨by decide +kernel, by decide +kernel⟩, ⟨by decide, by decide, by decide⟩, _, _, rfl⟩
theorem wd_22 : Cond.code (bb_md 8).1 (bb_md 8).2.1 (bb_md 8).2.2.1 (bb_md 8).2.2.2 ∈ bb_TB := bb_tb (i := 452) (by decide +kernel) rfl
theorem wd_23 : Cond.instanceMethod (bb_md 8).1 ∈ bb_TB := bb_tb (i := 450) (by decide +kernel) rfl
theorem wd_24 : Cond.selects (bb_md 8).1.cls (bb_md 8).1 (bb_md 8).1 ∈ bb_TB := bb_tb (i := 451) (by decide +kernel) rfl
theorem mV_8 : bb_mV 8 6 1 := ⟨⟨wd_23, wd_24, wd_4, wd_22⟩, ⟨by decide +kernel, by decide +kernel, by decide +kernel⟩, ⟨by decide +kernel, by decide +kernel⟩, ⟨by decide, by decide, by decide⟩, _, _, rfl⟩
theorem wd_25 : Cond.code (bb_md 9).1 (bb_md 9).2.1 (bb_md 9).2.2.1 (bb_md 9).2.2.2 ∈ bb_TB := bb_tb (i := 460) (by decide +kernel) rfl
theorem wd_26 : Cond.instanceMethod (bb_md 9).1 ∈ bb_TB := bb_tb (i := 458) (by decide +kernel) rfl
theorem wd_27 : Cond.selects (bb_md 9).1.cls (bb_md 9).1 (bb_md 9).1 ∈ bb_TB := bb_tb (i := 459) (by decide +kernel) rfl
theorem mV_9 : bb_mV 9 6 1 := ⟨⟨wd_26, wd_27, wd_4, wd_25⟩, ⟨by decide +kernel, by decide +kernel, by decide +kernel⟩, ⟨by decide +kernel, by decide +kernel⟩, ⟨by decide, by decide, by decide⟩, _, _, rfl⟩
theorem wd_28 : Cond.code (bb_md 10).1 (bb_md 10).2.1 (bb_md 10).2.2.1 (bb_md 10).2.2.2 ∈ bb_TB := bb_tb (i := 421) (by decide +kernel) rfl
theorem wd_29 : Cond.instanceMethod (bb_md 10).1 ∈ bb_TB := bb_tb (i := 419) (by decide +kernel) rfl
theorem wd_30 : Cond.selects (bb_md 10).1.cls (bb_md 10).1 (bb_md 10).1 ∈ bb_TB := bb_tb (i := 420) (by decide +kernel) rfl
theorem mV_10 : bb_mV 10 6 4 := ⟨⟨wd_29, wd_30, wd_4, wd_28⟩, ⟨by decide +kernel, by decide +kernel, by decide +kernel⟩, ⟨by decide +kernel, by decide +kernel⟩, ⟨by decide, by decide, by decide⟩, _, _, rfl⟩
theorem wd_31 : Cond.code (bb_md 11).1 (bb_md 11).2.1 (bb_md 11).2.2.1 (bb_md 11).2.2.2 ∈ bb_TB := bb_tb (i := 483) (by decide +kernel) rfl
theorem wd_32 : Cond.instanceMethod (bb_md 11).1 ∈ bb_TB := bb_tb (i := 481) (by decide +kernel) rfl
theorem wd_33 : Cond.selects (bb_md 11).1.cls (bb_md 11).1 (bb_md 11).1 ∈ bb_TB := bb_tb (i := 482) (by decide +kernel) rfl
theorem mV_11 : bb_mV 11 6 3 := ⟨⟨wd_32, wd_33, wd_4, wd_31⟩, ⟨by decide +kernel, by decide +kernel, by decide +kernel⟩, ⟨by decide +kernel, by decide +kernel⟩, ⟨by decide, by decide, by decide⟩, _, _, rfl⟩
theorem wd_34 : Cond.code (bb_md 12).1 (bb_md 12).2.1 (bb_md 12).2.2.1 (bb_md 12).2.2.2 ∈ bb_TB := bb_tb (i := 517) (by decide +kernel) rfl
theorem wd_35 : Cond.instanceMethod (bb_md 12).1 ∈ bb_TB := bb_tb (i := 515) (by decide +kernel) rfl
theorem wd_36 : Cond.selects (bb_md 12).1.cls (bb_md 12).1 (bb_md 12).1 ∈ bb_TB := bb_tb (i := 516) (by decide +kernel) rfl
theorem mV_12 : bb_mV 12 6 3 := ⟨⟨wd_35, wd_36, wd_4, wd_34⟩, ⟨by decide +kernel, by decide +kernel, by decide +kernel⟩, ⟨by decide +kernel, by decide +kernel⟩, ⟨by decide, by decide, by decide⟩, _, _, rfl⟩
theorem wd_37 : Cond.code (bb_md 13).1 (bb_md 13).2.1 (bb_md 13).2.2.1 (bb_md 13).2.2.2 ∈ bb_TB := bb_tb (i := 414) (by decide +kernel) rfl
theorem wd_38 : Cond.instanceMethod (bb_md 13).1 ∈ bb_TB := bb_tb (i := 412) (by decide +kernel) rfl
theorem wd_39 : Cond.selects (bb_md 13).1.cls (bb_md 13).1 (bb_md 13).1 ∈ bb_TB := bb_tb (i := 413) (by decide +kernel) rfl
theorem mV_13 : bb_mV 13 6 3 := ⟨⟨wd_38, wd_39, wd_4, wd_37⟩, ⟨by decide +kernel, by decide +kernel, by decide +kernel⟩, ⟨by decide +kernel, by decide +kernel⟩, ⟨by decide, by decide, by decide⟩, _, _, rfl⟩
theorem wd_40 : Cond.code (bb_md 14).1 (bb_md 14).2.1 (bb_md 14).2.2.1 (bb_md 14).2.2.2 ∈ bb_TB := bb_tb (i := 512) (by decide +kernel) rfl
theorem wd_41 : Cond.instanceMethod (bb_md 14).1 ∈ bb_TB := bb_tb (i := 510) (by decide +kernel) rfl
theorem wd_42 : Cond.selects (bb_md 14).1.cls (bb_md 14).1 (bb_md 14).1 ∈ bb_TB := bb_tb (i := 511) (by decide +kernel) rfl
theorem mV_14 : bb_mV 14 6 4 := ⟨⟨wd_41, wd_42, wd_4, wd_40⟩, ⟨by decide +kernel, by decide +kernel, by decide +kernel⟩, ⟨by decide +kernel, by decide +kernel⟩, ⟨by decide, by decide, by decide⟩, _, _, rfl⟩
theorem wd_43 : Cond.code (bb_md 15).1 (bb_md 15).2.1 (bb_md 15).2.2.1 (bb_md 15).2.2.2 ∈ bb_TB := bb_tb (i := 521) (by decide +kernel) rfl
theorem wd_44 : Cond.instanceMethod (bb_md 15).1 ∈ bb_TB := bb_tb (i := 519) (by decide +kernel) rfl
theorem wd_45 : Cond.selects (bb_md 15).1.cls (bb_md 15).1 (bb_md 15).1 ∈ bb_TB := bb_tb (i := 520) (by decide +kernel) rfl
theorem mV_15 : bb_mV 15 6 3 := ⟨⟨wd_44, wd_45, wd_4, wd_43⟩, ⟨by decide +kernel, by decide +kernel, by decide +kernel⟩, ⟨by decide +kernel, by decide +kernel⟩, ⟨by decide, by decide, by decide⟩, _, _, rfl⟩
theorem wd_46 : Cond.code (bb_md 16).1 (bb_md 16).2.1 (bb_md 16).2.2.1 (bb_md 16).2.2.2 ∈ bb_TB := bb_tb (i := 213) (by decide +kernel) rfl
theorem wd_47 : Cond.instanceMethod (bb_md 16).1 ∈ bb_TB := bb_tb (i := 211) (by decide +kernel) rfl
theorem wd_48 : Cond.selects (bb_md 16).1.cls (bb_md 16).1 (bb_md 16).1 ∈ bb_TB := bb_tb (i := 212) (by decide +kernel) rfl
theorem mV_16 : bb_mV 16 6 2 := ⟨⟨wd_47, wd_48, wd_4, wd_46⟩, ⟨by decide +kernel, by decide +kernel, by decide +kernel⟩, ⟨by decide +kernel, by decide +kernel⟩, ⟨by decide, by decide, by decide⟩, _, _, rfl⟩
theorem wd_49 : Cond.code (bb_md 17).1 (bb_md 17).2.1 (bb_md 17).2.2.1 (bb_md 17).2.2.2 ∈ bb_TB := bb_tb (i := 286) (by decide +kernel) rfl
theorem wd_50 : Cond.static (bb_md 17).1 ∈ bb_TB := bb_tb (i := 285) (by decide +kernel) rfl
theorem mS_17 : bb_mS 17 1 := ⟨⟨wd_50, wd_4, wd_49⟩, ⟨by decide +kernel, by decide +kernel, by decide +kernel⟩, by decide +kernel, fun _ => by decide +kernel⟩
theorem wd_51 : Cond.code (bb_md 18).1 (bb_md 18).2.1 (bb_md 18).2.2.1 (bb_md 18).2.2.2 ∈ bb_TB := bb_tb (i := 424) (by decide +kernel) rfl
theorem wd_52 : Cond.static (bb_md 18).1 ∈ bb_TB := bb_tb (i := 423) (by decide +kernel) rfl
theorem mS_18 : bb_mS 18 1 := ⟨⟨wd_52, wd_4, wd_51⟩, ⟨by decide +kernel, by decide +kernel, by decide +kernel⟩, by decide +kernel, fun _ => by decide +kernel⟩
theorem wd_53 : Cond.code (bb_md 19).1 (bb_md 19).2.1 (bb_md 19).2.2.1 (bb_md 19).2.2.2 ∈ bb_TB := bb_tb (i := 289) (by decide +kernel) rfl
theorem wd_54 : Cond.static (bb_md 19).1 ∈ bb_TB := bb_tb (i := 288) (by decide +kernel) rfl
theorem mS_19 : bb_mS 19 1 := ⟨⟨wd_54, wd_4, wd_53⟩, ⟨by decide +kernel, by decide +kernel, by decide +kernel⟩, by decide +kernel, fun _ => by decide +kernel⟩
theorem wd_55 : Cond.code (bb_md 20).1 (bb_md 20).2.1 (bb_md 20).2.2.1 (bb_md 20).2.2.2 ∈ bb_TB := bb_tb (i := 46) (by decide +kernel) rfl
theorem wd_56 : Cond.static (bb_md 20).1 ∈ bb_TB := bb_tb (i := 45) (by decide +kernel) rfl
theorem mS_20 : bb_mS 20 1 := ⟨⟨wd_56, wd_4, wd_55⟩, ⟨by decide +kernel, by decide +kernel, by decide +kernel⟩, by decide +kernel, fun _ => by decide +kernel⟩
theorem wd_57 : Cond.code (bb_md 21).1 (bb_md 21).2.1 (bb_md 21).2.2.1 (bb_md 21).2.2.2 ∈ bb_TB := bb_tb (i := 342) (by decide +kernel) rfl
theorem wd_58 : Cond.instanceMethod (bb_md 21).1 ∈ bb_TB := bb_tb (i := 341) (by decide +kernel) rfl
theorem wd_59 : Cond.selects (bb_md 21).1.cls (bb_md 21).1 (bb_md 21).1 ∈ bb_TB := bb_tb (i := 4) (by decide +kernel) rfl
theorem mV_21 : bb_mV 21 6 2 := ⟨⟨wd_58, wd_59, wd_4, wd_57⟩, ⟨by decide +kernel, by decide +kernel, by decide +kernel⟩, ⟨by decide +kernel, by decide +kernel⟩, ⟨by decide, by decide, by decide⟩, _, _, rfl⟩
theorem wd_60 : Cond.code (bb_md 22).1 (bb_md 22).2.1 (bb_md 22).2.2.1 (bb_md 22).2.2.2 ∈ bb_TB := bb_tb (i := 322) (by decide +kernel) rfl
theorem wd_61 : Cond.instanceMethod (bb_md 22).1 ∈ bb_TB := bb_tb (i := 321) (by decide +kernel) rfl
theorem wd_62 : Cond.selects (bb_md 22).1.cls (bb_md 22).1 (bb_md 22).1 ∈ bb_TB := bb_tb (i := 1) (by decide +kernel) rfl
theorem mV_22 : bb_mV 22 6 2 := ⟨⟨wd_61, wd_62, wd_4, wd_60⟩, ⟨by decide +kernel, by decide +kernel, by decide +kernel⟩, ⟨by decide +kernel, by decide +kernel⟩, ⟨by decide, by decide, by decide⟩, _, _, rfl⟩
theorem wd_63 : Cond.code (bb_md 23).1 (bb_md 23).2.1 (bb_md 23).2.2.1 (bb_md 23).2.2.2 ∈ bb_TB := bb_tb (i := 326) (by decide +kernel) rfl
theorem wd_64 : Cond.instanceMethod (bb_md 23).1 ∈ bb_TB := bb_tb (i := 325) (by decide +kernel) rfl
theorem wd_65 : Cond.selects (bb_md 23).1.cls (bb_md 23).1 (bb_md 23).1 ∈ bb_TB := bb_tb (i := 2) (by decide +kernel) rfl
theorem mV_23 : bb_mV 23 6 1 := ⟨⟨wd_64, wd_65, wd_4, wd_63⟩, ⟨by decide +kernel, by decide +kernel, by decide +kernel⟩, ⟨by decide +kernel, by decide +kernel⟩, ⟨by decide, by decide, by decide⟩, _, _, rfl⟩
theorem wd_66 : Cond.code (bb_md 24).1 (bb_md 24).2.1 (bb_md 24).2.2.1 (bb_md 24).2.2.2 ∈ bb_TB := bb_tb (i := 330) (by decide +kernel) rfl
theorem wd_67 : Cond.instanceMethod (bb_md 24).1 ∈ bb_TB := bb_tb (i := 329) (by decide +kernel) rfl
theorem wd_68 : Cond.selects (bb_md 24).1.cls (bb_md 24).1 (bb_md 24).1 ∈ bb_TB := bb_tb (i := 3) (by decide +kernel) rfl
theorem mV_24 : bb_mV 24 6 3 := ⟨⟨wd_67, wd_68, wd_4, wd_66⟩, ⟨by decide +kernel, by decide +kernel, by decide +kernel⟩, ⟨by decide +kernel, by decide +kernel⟩, ⟨by decide, by decide, by decide⟩, _, _, rfl⟩
theorem wd_69 : Cond.code (bb_md 25).1 (bb_md 25).2.1 (bb_md 25).2.2.1 (bb_md 25).2.2.2 ∈ bb_TB := bb_tb (i := 381) (by decide +kernel) rfl
theorem wd_70 : Cond.instanceMethod (bb_md 25).1 ∈ bb_TB := bb_tb (i := 380) (by decide +kernel) rfl
theorem wd_71 : Cond.selects (bb_md 25).1.cls (bb_md 25).1 (bb_md 25).1 ∈ bb_TB := bb_tb (i := 9) (by decide +kernel) rfl
theorem mV_25 : bb_mV 25 6 2 := ⟨⟨wd_70, wd_71, wd_4, wd_69⟩, ⟨by decide +kernel, by decide +kernel, by decide +kernel⟩, ⟨by decide +kernel, by decide +kernel⟩, ⟨by decide, by decide, by decide⟩, _, _, rfl⟩
theorem wd_72 : Cond.code (bb_md 26).1 (bb_md 26).2.1 (bb_md 26).2.2.1 (bb_md 26).2.2.2 ∈ bb_TB := bb_tb (i := 275) (by decide +kernel) rfl
theorem wd_73 : Cond.initialized RX0 ∈ bb_TB := bb_tb (i := 19) (by decide +kernel) rfl
theorem wd_74 : Cond.instanceMethod (bb_md 26).1 ∈ bb_TB := bb_tb (i := 273) (by decide +kernel) rfl
theorem wd_75 : Cond.selects (bb_md 26).1.cls (bb_md 26).1 (bb_md 26).1 ∈ bb_TB := bb_tb (i := 274) (by decide +kernel) rfl
theorem mV_26 : bb_mV 26 0 1 := ⟨⟨wd_74, wd_75, wd_73, wd_72⟩, ⟨by decide +kernel, by decide +kernel, by decide +kernel⟩, ⟨by decide +kernel, by decide +kernel⟩, ⟨by decide, by decide, by decide⟩, _, _, rfl⟩
theorem wd_76 : Cond.code (bb_md 27).1 (bb_md 27).2.1 (bb_md 27).2.2.1 (bb_md 27).2.2.2 ∈ bb_TB := bb_tb (i := 293) (by decide +kernel) rfl
theorem wd_77 : Cond.instanceMethod (bb_md 27).1 ∈ bb_TB := bb_tb (i := 291) (by decide +kernel) rfl
theorem wd_78 : Cond.selects (bb_md 27).1.cls (bb_md 27).1 (bb_md 27).1 ∈ bb_TB := bb_tb (i := 292) (by decide +kernel) rfl
theorem mV_27 : bb_mV 27 0 2 := ⟨⟨wd_77, wd_78, wd_73, wd_76⟩, ⟨by decide +kernel, by decide +kernel, by decide +kernel⟩, ⟨by decide +kernel, by decide +kernel⟩, ⟨by decide, by decide, by decide⟩, _, _, rfl⟩
theorem wd_79 : Cond.code (bb_md 28).1 (bb_md 28).2.1 (bb_md 28).2.2.1 (bb_md 28).2.2.2 ∈ bb_TB := bb_tb (i := 464) (by decide +kernel) rfl
theorem wd_80 : Cond.instanceMethod (bb_md 28).1 ∈ bb_TB := bb_tb (i := 462) (by decide +kernel) rfl
theorem wd_81 : Cond.selects (bb_md 28).1.cls (bb_md 28).1 (bb_md 28).1 ∈ bb_TB := bb_tb (i := 463) (by decide +kernel) rfl
theorem mV_28 : bb_mV 28 0 2 := ⟨⟨wd_80, wd_81, wd_73, wd_79⟩, ⟨by decide +kernel, by decide +kernel, by decide +kernel⟩, ⟨by decide +kernel, by decide +kernel⟩, ⟨by decide, by decide, by decide⟩, _, _, rfl⟩
theorem wd_82 : Cond.code (bb_md 29).1 (bb_md 29).2.1 (bb_md 29).2.2.1 (bb_md 29).2.2.2 ∈ bb_TB := bb_tb (i := 306) (by decide +kernel) rfl
theorem wd_83 : Cond.initialized RX1 ∈ bb_TB := bb_tb (i := 17) (by decide +kernel) rfl
theorem wd_84 : Cond.instanceMethod (bb_md 29).1 ∈ bb_TB := bb_tb (i := 304) (by decide +kernel) rfl
theorem wd_85 : Cond.selects (bb_md 29).1.cls (bb_md 29).1 (bb_md 29).1 ∈ bb_TB := bb_tb (i := 305) (by decide +kernel) rfl
theorem mV_29 : bb_mV 29 1 2 := ⟨⟨wd_84, wd_85, wd_83, wd_82⟩, ⟨by decide +kernel, by decide +kernel, by decide +kernel⟩, ⟨by decide +kernel, by decide +kernel⟩, ⟨by decide, by decide, by decide⟩, _, _, rfl⟩
theorem wd_86 : Cond.code (bb_md 30).1 (bb_md 30).2.1 (bb_md 30).2.2.1 (bb_md 30).2.2.2 ∈ bb_TB := bb_tb (i := 229) (by decide +kernel) rfl
theorem wd_87 : Cond.instanceMethod (bb_md 30).1 ∈ bb_TB := bb_tb (i := 227) (by decide +kernel) rfl
theorem wd_88 : Cond.selects (bb_md 30).1.cls (bb_md 30).1 (bb_md 30).1 ∈ bb_TB := bb_tb (i := 228) (by decide +kernel) rfl
theorem mV_30 : bb_mV 30 1 1 := ⟨⟨wd_87, wd_88, wd_83, wd_86⟩, ⟨by decide +kernel, by decide +kernel, by decide +kernel⟩, ⟨by decide +kernel, by decide +kernel⟩, ⟨by decide, by decide, by decide⟩, _, _, rfl⟩
theorem wd_89 : Cond.code (bb_md 31).1 (bb_md 31).2.1 (bb_md 31).2.2.1 (bb_md 31).2.2.2 ∈ bb_TB := bb_tb (i := 338) (by decide +kernel) rfl
theorem wd_90 : Cond.instanceMethod (bb_md 31).1 ∈ bb_TB := bb_tb (i := 336) (by decide +kernel) rfl
theorem wd_91 : Cond.selects (bb_md 31).1.cls (bb_md 31).1 (bb_md 31).1 ∈ bb_TB := bb_tb (i := 337) (by decide +kernel) rfl
theorem mV_31 : bb_mV 31 1 2 := ⟨⟨wd_90, wd_91, wd_83, wd_89⟩, ⟨by decide +kernel, by decide +kernel, by decide +kernel⟩, ⟨by decide +kernel, by decide +kernel⟩, ⟨by decide, by decide, by decide⟩, _, _, rfl⟩
theorem wd_92 : Cond.code (bb_md 32).1 (bb_md 32).2.1 (bb_md 32).2.2.1 (bb_md 32).2.2.2 ∈ bb_TB := bb_tb (i := 334) (by decide +kernel) rfl
theorem wd_93 : Cond.instanceMethod (bb_md 32).1 ∈ bb_TB := bb_tb (i := 332) (by decide +kernel) rfl
theorem wd_94 : Cond.selects (bb_md 32).1.cls (bb_md 32).1 (bb_md 32).1 ∈ bb_TB := bb_tb (i := 333) (by decide +kernel) rfl
theorem mV_32 : bb_mV 32 1 2 := ⟨⟨wd_93, wd_94, wd_83, wd_92⟩, ⟨by decide +kernel, by decide +kernel, by decide +kernel⟩, ⟨by decide +kernel, by decide +kernel⟩, ⟨by decide, by decide, by decide⟩, _, _, rfl⟩
theorem wd_95 : Cond.code (bb_md 33).1 (bb_md 33).2.1 (bb_md 33).2.2.1 (bb_md 33).2.2.2 ∈ bb_TB := bb_tb (i := 314) (by decide +kernel) rfl
theorem wd_96 : Cond.instanceMethod (bb_md 33).1 ∈ bb_TB := bb_tb (i := 312) (by decide +kernel) rfl
theorem wd_97 : Cond.selects (bb_md 33).1.cls (bb_md 33).1 (bb_md 33).1 ∈ bb_TB := bb_tb (i := 313) (by decide +kernel) rfl
theorem mV_33 : bb_mV 33 1 3 := ⟨⟨wd_96, wd_97, wd_83, wd_95⟩, ⟨by decide +kernel, by decide +kernel, by decide +kernel⟩, ⟨by decide +kernel, by decide +kernel⟩, ⟨by decide, by decide, by decide⟩, _, _, rfl⟩
theorem wd_98 : Cond.code (bb_md 34).1 (bb_md 34).2.1 (bb_md 34).2.2.1 (bb_md 34).2.2.2 ∈ bb_TB := bb_tb (i := 472) (by decide +kernel) rfl
theorem wd_99 : Cond.instanceMethod (bb_md 34).1 ∈ bb_TB := bb_tb (i := 470) (by decide +kernel) rfl
theorem wd_100 : Cond.selects (bb_md 34).1.cls (bb_md 34).1 (bb_md 34).1 ∈ bb_TB := bb_tb (i := 471) (by decide +kernel) rfl
theorem mV_34 : bb_mV 34 1 3 := ⟨⟨wd_99, wd_100, wd_83, wd_98⟩, ⟨by decide +kernel, by decide +kernel, by decide +kernel⟩, ⟨by decide +kernel, by decide +kernel⟩, ⟨by decide, by decide, by decide⟩, _, _, rfl⟩
theorem wd_101 : Cond.code (bb_md 35).1 (bb_md 35).2.1 (bb_md 35).2.2.1 (bb_md 35).2.2.2 ∈ bb_TB := bb_tb (i := 476) (by decide +kernel) rfl
theorem wd_102 : Cond.instanceMethod (bb_md 35).1 ∈ bb_TB := bb_tb (i := 474) (by decide +kernel) rfl
theorem wd_103 : Cond.selects (bb_md 35).1.cls (bb_md 35).1 (bb_md 35).1 ∈ bb_TB := bb_tb (i := 475) (by decide +kernel) rfl
theorem mV_35 : bb_mV 35 1 3 := ⟨⟨wd_102, wd_103, wd_83, wd_101⟩, ⟨by decide +kernel, by decide +kernel, by decide +kernel⟩, ⟨by decide +kernel, by decide +kernel⟩, ⟨by decide, by decide, by decide⟩, _, _, rfl⟩
theorem wd_104 : Cond.code (bb_md 36).1 (bb_md 36).2.1 (bb_md 36).2.2.1 (bb_md 36).2.2.2 ∈ bb_TB := bb_tb (i := 407) (by decide +kernel) rfl
theorem wd_105 : Cond.instanceMethod (bb_md 36).1 ∈ bb_TB := bb_tb (i := 405) (by decide +kernel) rfl
theorem wd_106 : Cond.selects (bb_md 36).1.cls (bb_md 36).1 (bb_md 36).1 ∈ bb_TB := bb_tb (i := 406) (by decide +kernel) rfl
theorem mV_36 : bb_mV 36 1 1 := ⟨⟨wd_105, wd_106, wd_83, wd_104⟩, ⟨by decide +kernel, by decide +kernel, by decide +kernel⟩, ⟨by decide +kernel, by decide +kernel⟩, ⟨by decide, by decide, by decide⟩, _, _, rfl⟩
theorem wd_107 : Cond.code (bb_md 37).1 (bb_md 37).2.1 (bb_md 37).2.2.1 (bb_md 37).2.2.2 ∈ bb_TB := bb_tb (i := 376) (by decide +kernel) rfl
theorem wd_108 : Cond.initialized RX2 ∈ bb_TB := bb_tb (i := 21) (by decide +kernel) rfl
theorem wd_109 : Cond.instanceMethod (bb_md 37).1 ∈ bb_TB := bb_tb (i := 374) (by decide +kernel) rfl
theorem wd_110 : Cond.selects (bb_md 37).1.cls (bb_md 37).1 (bb_md 37).1 ∈ bb_TB := bb_tb (i := 375) (by decide +kernel) rfl
theorem mV_37 : bb_mV 37 2 2 := ⟨⟨wd_109, wd_110, wd_108, wd_107⟩, ⟨by decide +kernel, by decide +kernel, by decide +kernel⟩, ⟨by decide +kernel, by decide +kernel⟩, ⟨by decide, by decide, by decide⟩, _, _, rfl⟩
theorem wd_111 : Cond.code (bb_md 38).1 (bb_md 38).2.1 (bb_md 38).2.2.1 (bb_md 38).2.2.2 ∈ bb_TB := bb_tb (i := 346) (by decide +kernel) rfl
theorem wd_112 : Cond.instanceMethod (bb_md 38).1 ∈ bb_TB := bb_tb (i := 344) (by decide +kernel) rfl
theorem wd_113 : Cond.selects (bb_md 38).1.cls (bb_md 38).1 (bb_md 38).1 ∈ bb_TB := bb_tb (i := 345) (by decide +kernel) rfl
theorem mV_38 : bb_mV 38 2 6 := ⟨⟨wd_112, wd_113, wd_108, wd_111⟩, ⟨by decide +kernel, by decide +kernel, by decide +kernel⟩, ⟨by decide +kernel, by decide +kernel⟩, ⟨by decide, by decide, by decide⟩, _, _, rfl⟩
theorem wd_114 : Cond.code (bb_md 39).1 (bb_md 39).2.1 (bb_md 39).2.2.1 (bb_md 39).2.2.2 ∈ bb_TB := bb_tb (i := 350) (by decide +kernel) rfl
theorem wd_115 : Cond.instanceMethod (bb_md 39).1 ∈ bb_TB := bb_tb (i := 349) (by decide +kernel) rfl
theorem wd_116 : Cond.selects (bb_md 39).1.cls (bb_md 39).1 (bb_md 39).1 ∈ bb_TB := bb_tb (i := 5) (by decide +kernel) rfl
theorem mV_39 : bb_mV 39 2 3 := ⟨⟨wd_115, wd_116, wd_108, wd_114⟩, ⟨by decide +kernel, by decide +kernel, by decide +kernel⟩, ⟨by decide +kernel, by decide +kernel⟩, ⟨by decide, by decide, by decide⟩, _, _, rfl⟩
theorem wd_117 : Cond.code (bb_md 40).1 (bb_md 40).2.1 (bb_md 40).2.2.1 (bb_md 40).2.2.2 ∈ bb_TB := bb_tb (i := 355) (by decide +kernel) rfl
theorem wd_118 : Cond.instanceMethod (bb_md 40).1 ∈ bb_TB := bb_tb (i := 354) (by decide +kernel) rfl
theorem wd_119 : Cond.selects (bb_md 40).1.cls (bb_md 40).1 (bb_md 40).1 ∈ bb_TB := bb_tb (i := 6) (by decide +kernel) rfl
theorem mV_40 : bb_mV 40 2 3 := ⟨⟨wd_118, wd_119, wd_108, wd_117⟩, ⟨by decide +kernel, by decide +kernel, by decide +kernel⟩, ⟨by decide +kernel, by decide +kernel⟩, ⟨by decide, by decide, by decide⟩, _, _, rfl⟩
theorem wd_120 : Cond.code (bb_md 41).1 (bb_md 41).2.1 (bb_md 41).2.2.1 (bb_md 41).2.2.2 ∈ bb_TB := bb_tb (i := 359) (by decide +kernel) rfl
theorem wd_121 : Cond.instanceMethod (bb_md 41).1 ∈ bb_TB := bb_tb (i := 358) (by decide +kernel) rfl
theorem wd_122 : Cond.selects (bb_md 41).1.cls (bb_md 41).1 (bb_md 41).1 ∈ bb_TB := bb_tb (i := 7) (by decide +kernel) rfl
theorem mV_41 : bb_mV 41 2 5 := ⟨⟨wd_121, wd_122, wd_108, wd_120⟩, ⟨by decide +kernel, by decide +kernel, by decide +kernel⟩, ⟨by decide +kernel, by decide +kernel⟩, ⟨by decide, by decide, by decide⟩, _, _, rfl⟩
theorem wd_123 : Cond.code (bb_md 42).1 (bb_md 42).2.1 (bb_md 42).2.2.1 (bb_md 42).2.2.2 ∈ bb_TB := bb_tb (i := 364) (by decide +kernel) rfl
theorem wd_124 : Cond.instanceMethod (bb_md 42).1 ∈ bb_TB := bb_tb (i := 363) (by decide +kernel) rfl
theorem wd_125 : Cond.selects (bb_md 42).1.cls (bb_md 42).1 (bb_md 42).1 ∈ bb_TB := bb_tb (i := 8) (by decide +kernel) rfl
theorem mV_42 : bb_mV 42 2 4 := ⟨⟨wd_124, wd_125, wd_108, wd_123⟩, ⟨by decide +kernel, by decide +kernel, by decide +kernel⟩, ⟨by decide +kernel, by decide +kernel⟩, ⟨by decide, by decide, by decide⟩, _, _, rfl⟩
theorem wd_126 : Cond.code (bb_md 43).1 (bb_md 43).2.1 (bb_md 43).2.2.1 (bb_md 43).2.2.2 ∈ bb_TB := bb_tb (i := 301) (by decide +kernel) rfl
theorem wd_127 : Cond.initialized RX3 ∈ bb_TB := bb_tb (i := 16) (by decide +kernel) rfl
theorem wd_128 : Cond.instanceMethod (bb_md 43).1 ∈ bb_TB := bb_tb (i := 299) (by decide +kernel) rfl
theorem wd_129 : Cond.selects (bb_md 43).1.cls (bb_md 43).1 (bb_md 43).1 ∈ bb_TB := bb_tb (i := 300) (by decide +kernel) rfl
theorem mV_43 : bb_mV 43 3 2 := ⟨⟨wd_128, wd_129, wd_127, wd_126⟩, ⟨by decide +kernel, by decide +kernel, by decide +kernel⟩, ⟨by decide +kernel, by decide +kernel⟩, ⟨by decide, by decide, by decide⟩, _, _, rfl⟩
theorem wd_130 : Cond.code (bb_md 44).1 (bb_md 44).2.1 (bb_md 44).2.2.1 (bb_md 44).2.2.2 ∈ bb_TB := bb_tb (i := 225) (by decide +kernel) rfl
theorem wd_131 : Cond.instanceMethod (bb_md 44).1 ∈ bb_TB := bb_tb (i := 223) (by decide +kernel) rfl
theorem wd_132 : Cond.selects (bb_md 44).1.cls (bb_md 44).1 (bb_md 44).1 ∈ bb_TB := bb_tb (i := 224) (by decide +kernel) rfl
theorem mV_44 : bb_mV 44 3 3 := ⟨⟨wd_131, wd_132, wd_127, wd_130⟩, ⟨by decide +kernel, by decide +kernel, by decide +kernel⟩, ⟨by decide +kernel, by decide +kernel⟩, ⟨by decide, by decide, by decide⟩, _, _, rfl⟩
theorem wd_133 : Cond.code (bb_md 45).1 (bb_md 45).2.1 (bb_md 45).2.2.1 (bb_md 45).2.2.2 ∈ bb_TB := bb_tb (i := 436) (by decide +kernel) rfl
theorem wd_134 : Cond.instanceMethod (bb_md 45).1 ∈ bb_TB := bb_tb (i := 434) (by decide +kernel) rfl
theorem wd_135 : Cond.selects (bb_md 45).1.cls (bb_md 45).1 (bb_md 45).1 ∈ bb_TB := bb_tb (i := 435) (by decide +kernel) rfl
theorem mV_45 : bb_mV 45 3 4 := ⟨⟨wd_134, wd_135, wd_127, wd_133⟩, ⟨by decide +kernel, by decide +kernel, by decide +kernel⟩, ⟨by decide +kernel, by decide +kernel⟩, ⟨by decide, by decide, by decide⟩, _, _, rfl⟩
theorem wd_136 : Cond.code (bb_md 46).1 (bb_md 46).2.1 (bb_md 46).2.2.1 (bb_md 46).2.2.2 ∈ bb_TB := bb_tb (i := 368) (by decide +kernel) rfl
theorem wd_137 : Cond.instanceMethod (bb_md 46).1 ∈ bb_TB := bb_tb (i := 366) (by decide +kernel) rfl
theorem wd_138 : Cond.selects (bb_md 46).1.cls (bb_md 46).1 (bb_md 46).1 ∈ bb_TB := bb_tb (i := 367) (by decide +kernel) rfl
theorem mV_46 : bb_mV 46 3 4 := ⟨⟨wd_137, wd_138, wd_127, wd_136⟩, ⟨by decide +kernel, by decide +kernel, by decide +kernel⟩, ⟨by decide +kernel, by decide +kernel⟩, ⟨by decide, by decide, by decide⟩, _, _, rfl⟩
theorem wd_139 : Cond.code (bb_md 47).1 (bb_md 47).2.1 (bb_md 47).2.2.1 (bb_md 47).2.2.2 ∈ bb_TB := bb_tb (i := 221) (by decide +kernel) rfl
theorem wd_140 : Cond.instanceMethod (bb_md 47).1 ∈ bb_TB := bb_tb (i := 219) (by decide +kernel) rfl
theorem wd_141 : Cond.selects (bb_md 47).1.cls (bb_md 47).1 (bb_md 47).1 ∈ bb_TB := bb_tb (i := 220) (by decide +kernel) rfl
theorem mV_47 : bb_mV 47 3 3 := ⟨⟨wd_140, wd_141, wd_127, wd_139⟩, ⟨by decide +kernel, by decide +kernel, by decide +kernel⟩, ⟨by decide +kernel, by decide +kernel⟩, ⟨by decide, by decide, by decide⟩, _, _, rfl⟩
theorem wd_142 : Cond.code (bb_md 48).1 (bb_md 48).2.1 (bb_md 48).2.2.1 (bb_md 48).2.2.2 ∈ bb_TB := bb_tb (i := 217) (by decide +kernel) rfl
theorem wd_143 : Cond.instanceMethod (bb_md 48).1 ∈ bb_TB := bb_tb (i := 215) (by decide +kernel) rfl
theorem wd_144 : Cond.selects (bb_md 48).1.cls (bb_md 48).1 (bb_md 48).1 ∈ bb_TB := bb_tb (i := 216) (by decide +kernel) rfl
theorem mV_48 : bb_mV 48 3 1 := ⟨⟨wd_143, wd_144, wd_127, wd_142⟩, ⟨by decide +kernel, by decide +kernel, by decide +kernel⟩, ⟨by decide +kernel, by decide +kernel⟩, ⟨by decide, by decide, by decide⟩, _, _, rfl⟩
theorem wd_145 : Cond.code (bb_md 49).1 (bb_md 49).2.1 (bb_md 49).2.2.1 (bb_md 49).2.2.2 ∈ bb_TB := bb_tb (i := 487) (by decide +kernel) rfl
theorem wd_146 : Cond.instanceMethod (bb_md 49).1 ∈ bb_TB := bb_tb (i := 485) (by decide +kernel) rfl
theorem wd_147 : Cond.selects (bb_md 49).1.cls (bb_md 49).1 (bb_md 49).1 ∈ bb_TB := bb_tb (i := 486) (by decide +kernel) rfl
theorem mV_49 : bb_mV 49 3 2 := ⟨⟨wd_146, wd_147, wd_127, wd_145⟩, ⟨by decide +kernel, by decide +kernel, by decide +kernel⟩, ⟨by decide +kernel, by decide +kernel⟩, ⟨by decide, by decide, by decide⟩, _, _, rfl⟩
theorem wd_148 : Cond.code (bb_md 50).1 (bb_md 50).2.1 (bb_md 50).2.2.1 (bb_md 50).2.2.2 ∈ bb_TB := bb_tb (i := 263) (by decide +kernel) rfl
theorem wd_149 : Cond.instanceMethod (bb_md 50).1 ∈ bb_TB := bb_tb (i := 261) (by decide +kernel) rfl
theorem wd_150 : Cond.selects (bb_md 50).1.cls (bb_md 50).1 (bb_md 50).1 ∈ bb_TB := bb_tb (i := 262) (by decide +kernel) rfl
theorem mV_50 : bb_mV 50 3 4 := ⟨⟨wd_149, wd_150, wd_127, wd_148⟩, ⟨by decide +kernel, by decide +kernel, by decide +kernel⟩, ⟨by decide +kernel, by decide +kernel⟩, ⟨by decide, by decide, by decide⟩, _, _, rfl⟩
theorem wd_151 : Cond.code (bb_md 51).1 (bb_md 51).2.1 (bb_md 51).2.2.1 (bb_md 51).2.2.2 ∈ bb_TB := bb_tb (i := 241) (by decide +kernel) rfl
theorem wd_152 : Cond.instanceMethod (bb_md 51).1 ∈ bb_TB := bb_tb (i := 239) (by decide +kernel) rfl
theorem wd_153 : Cond.selects (bb_md 51).1.cls (bb_md 51).1 (bb_md 51).1 ∈ bb_TB := bb_tb (i := 240) (by decide +kernel) rfl
theorem mV_51 : bb_mV 51 3 4 := ⟨⟨wd_152, wd_153, wd_127, wd_151⟩, ⟨by decide +kernel, by decide +kernel, by decide +kernel⟩, ⟨by decide +kernel, by decide +kernel⟩, ⟨by decide, by decide, by decide⟩, _, _, rfl⟩
theorem wd_154 : Cond.code (bb_md 52).1 (bb_md 52).2.1 (bb_md 52).2.2.1 (bb_md 52).2.2.2 ∈ bb_TB := bb_tb (i := 259) (by decide +kernel) rfl
theorem wd_155 : Cond.instanceMethod (bb_md 52).1 ∈ bb_TB := bb_tb (i := 257) (by decide +kernel) rfl
theorem wd_156 : Cond.selects (bb_md 52).1.cls (bb_md 52).1 (bb_md 52).1 ∈ bb_TB := bb_tb (i := 258) (by decide +kernel) rfl
theorem mV_52 : bb_mV 52 3 5 := ⟨⟨wd_155, wd_156, wd_127, wd_154⟩, ⟨by decide +kernel, by decide +kernel, by decide +kernel⟩, ⟨by decide +kernel, by decide +kernel⟩, ⟨by decide, by decide, by decide⟩, _, _, rfl⟩
theorem wd_157 : Cond.code (bb_md 53).1 (bb_md 53).2.1 (bb_md 53).2.2.1 (bb_md 53).2.2.2 ∈ bb_TB := bb_tb (i := 267) (by decide +kernel) rfl
theorem wd_158 : Cond.instanceMethod (bb_md 53).1 ∈ bb_TB := bb_tb (i := 266) (by decide +kernel) rfl
theorem wd_159 : Cond.selects (bb_md 53).1.cls (bb_md 53).1 (bb_md 53).1 ∈ bb_TB := bb_tb (i := 0) (by decide +kernel) rfl
theorem mV_53 : bb_mV 53 3 5 := ⟨⟨wd_158, wd_159, wd_127, wd_157⟩, ⟨by decide +kernel, by decide +kernel, by decide +kernel⟩, ⟨by decide +kernel, by decide +kernel⟩, ⟨by decide, by decide, by decide⟩, _, _, rfl⟩
theorem wd_160 : Cond.code (bb_md 54).1 (bb_md 54).2.1 (bb_md 54).2.2.1 (bb_md 54).2.2.2 ∈ bb_TB := bb_tb (i := 237) (by decide +kernel) rfl
theorem wd_161 : Cond.instanceMethod (bb_md 54).1 ∈ bb_TB := bb_tb (i := 235) (by decide +kernel) rfl
theorem wd_162 : Cond.selects (bb_md 54).1.cls (bb_md 54).1 (bb_md 54).1 ∈ bb_TB := bb_tb (i := 236) (by decide +kernel) rfl
theorem mV_54 : bb_mV 54 3 3 := ⟨⟨wd_161, wd_162, wd_127, wd_160⟩, ⟨by decide +kernel, by decide +kernel, by decide +kernel⟩, ⟨by decide +kernel, by decide +kernel⟩, ⟨by decide, by decide, by decide⟩, _, _, rfl⟩
theorem wd_163 : Cond.code (bb_md 55).1 (bb_md 55).2.1 (bb_md 55).2.2.1 (bb_md 55).2.2.2 ∈ bb_TB := bb_tb (i := 255) (by decide +kernel) rfl
theorem wd_164 : Cond.instanceMethod (bb_md 55).1 ∈ bb_TB := bb_tb (i := 253) (by decide +kernel) rfl
theorem wd_165 : Cond.selects (bb_md 55).1.cls (bb_md 55).1 (bb_md 55).1 ∈ bb_TB := bb_tb (i := 254) (by decide +kernel) rfl
theorem mV_55 : bb_mV 55 3 4 := ⟨⟨wd_164, wd_165, wd_127, wd_163⟩, ⟨by decide +kernel, by decide +kernel, by decide +kernel⟩, ⟨by decide +kernel, by decide +kernel⟩, ⟨by decide, by decide, by decide⟩, _, _, rfl⟩
theorem wd_166 : Cond.code (bb_md 56).1 (bb_md 56).2.1 (bb_md 56).2.2.1 (bb_md 56).2.2.2 ∈ bb_TB := bb_tb (i := 233) (by decide +kernel) rfl
theorem wd_167 : Cond.instanceMethod (bb_md 56).1 ∈ bb_TB := bb_tb (i := 231) (by decide +kernel) rfl
theorem wd_168 : Cond.selects (bb_md 56).1.cls (bb_md 56).1 (bb_md 56).1 ∈ bb_TB := bb_tb (i := 232) (by decide +kernel) rfl
theorem mV_56 : bb_mV 56 3 2 := ⟨⟨wd_167, wd_168, wd_127, wd_166⟩, ⟨by decide +kernel, by decide +kernel, by decide +kernel⟩, ⟨by decide +kernel, by decide +kernel⟩, ⟨by decide, by decide, by decide⟩, _, _, rfl⟩
theorem wd_169 : Cond.code (bb_md 57).1 (bb_md 57).2.1 (bb_md 57).2.2.1 (bb_md 57).2.2.2 ∈ bb_TB := bb_tb (i := 251) (by decide +kernel) rfl
theorem wd_170 : Cond.instanceMethod (bb_md 57).1 ∈ bb_TB := bb_tb (i := 249) (by decide +kernel) rfl
theorem wd_171 : Cond.selects (bb_md 57).1.cls (bb_md 57).1 (bb_md 57).1 ∈ bb_TB := bb_tb (i := 250) (by decide +kernel) rfl
theorem mV_57 : bb_mV 57 3 3 := ⟨⟨wd_170, wd_171, wd_127, wd_169⟩, ⟨by decide +kernel, by decide +kernel, by decide +kernel⟩, ⟨by decide +kernel, by decide +kernel⟩, ⟨by decide, by decide, by decide⟩, _, _, rfl⟩
theorem wd_172 : Cond.code (bb_md 58).1 (bb_md 58).2.1 (bb_md 58).2.2.1 (bb_md 58).2.2.2 ∈ bb_TB := bb_tb (i := 271) (by decide +kernel) rfl
theorem wd_173 : Cond.instanceMethod (bb_md 58).1 ∈ bb_TB := bb_tb (i := 269) (by decide +kernel) rfl
theorem wd_174 : Cond.selects (bb_md 58).1.cls (bb_md 58).1 (bb_md 58).1 ∈ bb_TB := bb_tb (i := 270) (by decide +kernel) rfl
theorem mV_58 : bb_mV 58 3 2 := ⟨⟨wd_173, wd_174, wd_127, wd_172⟩, ⟨by decide +kernel, by decide +kernel, by decide +kernel⟩, ⟨by decide +kernel, by decide +kernel⟩, ⟨by decide, by decide, by decide⟩, _, _, rfl⟩
theorem wd_175 : Cond.code (bb_md 59).1 (bb_md 59).2.1 (bb_md 59).2.2.1 (bb_md 59).2.2.2 ∈ bb_TB := bb_tb (i := 494) (by decide +kernel) rfl
theorem wd_176 : Cond.instanceMethod (bb_md 59).1 ∈ bb_TB := bb_tb (i := 492) (by decide +kernel) rfl
theorem wd_177 : Cond.selects (bb_md 59).1.cls (bb_md 59).1 (bb_md 59).1 ∈ bb_TB := bb_tb (i := 493) (by decide +kernel) rfl
theorem mV_59 : bb_mV 59 3 3 := ⟨⟨wd_176, wd_177, wd_127, wd_175⟩, ⟨by decide +kernel, by decide +kernel, by decide +kernel⟩, ⟨by decide +kernel, by decide +kernel⟩, ⟨by decide, by decide, by decide⟩, _, _, rfl⟩
theorem wd_178 : Cond.code (bb_md 60).1 (bb_md 60).2.1 (bb_md 60).2.2.1 (bb_md 60).2.2.2 ∈ bb_TB := bb_tb (i := 498) (by decide +kernel) rfl
theorem wd_179 : Cond.instanceMethod (bb_md 60).1 ∈ bb_TB := bb_tb (i := 496) (by decide +kernel) rfl
theorem wd_180 : Cond.selects (bb_md 60).1.cls (bb_md 60).1 (bb_md 60).1 ∈ bb_TB := bb_tb (i := 497) (by decide +kernel) rfl
theorem mV_60 : bb_mV 60 3 2 := ⟨⟨wd_179, wd_180, wd_127, wd_178⟩, ⟨by decide +kernel, by decide +kernel, by decide +kernel⟩, ⟨by decide +kernel, by decide +kernel⟩, ⟨by decide, by decide, by decide⟩, _, _, rfl⟩
theorem wd_181 : Cond.code (bb_md 61).1 (bb_md 61).2.1 (bb_md 61).2.2.1 (bb_md 61).2.2.2 ∈ bb_TB := bb_tb (i := 508) (by decide +kernel) rfl
theorem wd_182 : Cond.instanceMethod (bb_md 61).1 ∈ bb_TB := bb_tb (i := 506) (by decide +kernel) rfl
theorem wd_183 : Cond.selects (bb_md 61).1.cls (bb_md 61).1 (bb_md 61).1 ∈ bb_TB := bb_tb (i := 507) (by decide +kernel) rfl
theorem mV_61 : bb_mV 61 3 3 := ⟨⟨wd_182, wd_183, wd_127, wd_181⟩, ⟨by decide +kernel, by decide +kernel, by decide +kernel⟩, ⟨by decide +kernel, by decide +kernel⟩, ⟨by decide, by decide, by decide⟩, _, _, rfl⟩
theorem wd_184 : Cond.code (bb_md 62).1 (bb_md 62).2.1 (bb_md 62).2.2.1 (bb_md 62).2.2.2 ∈ bb_TB := bb_tb (i := 385) (by decide +kernel) rfl
theorem wd_185 : Cond.instanceMethod (bb_md 62).1 ∈ bb_TB := bb_tb (i := 383) (by decide +kernel) rfl
theorem wd_186 : Cond.selects (bb_md 62).1.cls (bb_md 62).1 (bb_md 62).1 ∈ bb_TB := bb_tb (i := 384) (by decide +kernel) rfl
theorem mV_62 : bb_mV 62 3 3 := ⟨⟨wd_185, wd_186, wd_127, wd_184⟩, ⟨by decide +kernel, by decide +kernel, by decide +kernel⟩, ⟨by decide +kernel, by decide +kernel⟩, ⟨by decide, by decide, by decide⟩, _, _, rfl⟩
theorem wd_187 : Cond.code (bb_md 63).1 (bb_md 63).2.1 (bb_md 63).2.2.1 (bb_md 63).2.2.2 ∈ bb_TB := bb_tb (i := 389) (by decide +kernel) rfl
theorem wd_188 : Cond.instanceMethod (bb_md 63).1 ∈ bb_TB := bb_tb (i := 388) (by decide +kernel) rfl
theorem wd_189 : Cond.selects (bb_md 63).1.cls (bb_md 63).1 (bb_md 63).1 ∈ bb_TB := bb_tb (i := 10) (by decide +kernel) rfl
theorem mV_63 : bb_mV 63 3 3 := ⟨⟨wd_188, wd_189, wd_127, wd_187⟩, ⟨by decide +kernel, by decide +kernel, by decide +kernel⟩, ⟨by decide +kernel, by decide +kernel⟩, ⟨by decide, by decide, by decide⟩, _, _, rfl⟩
theorem wd_190 : Cond.code (bb_md 64).1 (bb_md 64).2.1 (bb_md 64).2.2.1 (bb_md 64).2.2.2 ∈ bb_TB := bb_tb (i := 394) (by decide +kernel) rfl
theorem wd_191 : Cond.instanceMethod (bb_md 64).1 ∈ bb_TB := bb_tb (i := 392) (by decide +kernel) rfl
theorem wd_192 : Cond.selects (bb_md 64).1.cls (bb_md 64).1 (bb_md 64).1 ∈ bb_TB := bb_tb (i := 393) (by decide +kernel) rfl
theorem mV_64 : bb_mV 64 3 2 := ⟨⟨wd_191, wd_192, wd_127, wd_190⟩, ⟨by decide +kernel, by decide +kernel, by decide +kernel⟩, ⟨by decide +kernel, by decide +kernel⟩, ⟨by decide, by decide, by decide⟩, _, _, rfl⟩
theorem wd_193 : Cond.code (bb_md 65).1 (bb_md 65).2.1 (bb_md 65).2.2.1 (bb_md 65).2.2.2 ∈ bb_TB := bb_tb (i := 398) (by decide +kernel) rfl
theorem wd_194 : Cond.instanceMethod (bb_md 65).1 ∈ bb_TB := bb_tb (i := 397) (by decide +kernel) rfl
theorem wd_195 : Cond.selects (bb_md 65).1.cls (bb_md 65).1 (bb_md 65).1 ∈ bb_TB := bb_tb (i := 11) (by decide +kernel) rfl
theorem mV_65 : bb_mV 65 3 3 := ⟨⟨wd_194, wd_195, wd_127, wd_193⟩, ⟨by decide +kernel, by decide +kernel, by decide +kernel⟩, ⟨by decide +kernel, by decide +kernel⟩, ⟨by decide, by decide, by decide⟩, _, _, rfl⟩
theorem wd_196 : Cond.code (bb_md 66).1 (bb_md 66).2.1 (bb_md 66).2.2.1 (bb_md 66).2.2.2 ∈ bb_TB := bb_tb (i := 403) (by decide +kernel) rfl
theorem wd_197 : Cond.instanceMethod (bb_md 66).1 ∈ bb_TB := bb_tb (i := 402) (by decide +kernel) rfl
theorem wd_198 : Cond.selects (bb_md 66).1.cls (bb_md 66).1 (bb_md 66).1 ∈ bb_TB := bb_tb (i := 12) (by decide +kernel) rfl
theorem mV_66 : bb_mV 66 3 3 := ⟨⟨wd_197, wd_198, wd_127, wd_196⟩, ⟨by decide +kernel, by decide +kernel, by decide +kernel⟩, ⟨by decide +kernel, by decide +kernel⟩, ⟨by decide, by decide, by decide⟩, _, _, rfl⟩
theorem wd_199 : Cond.code (bb_md 67).1 (bb_md 67).2.1 (bb_md 67).2.2.1 (bb_md 67).2.2.2 ∈ bb_TB := bb_tb (i := 297) (by decide +kernel) rfl
theorem wd_200 : Cond.initialized RX4 ∈ bb_TB := bb_tb (i := 15) (by decide +kernel) rfl
theorem wd_201 : Cond.instanceMethod (bb_md 67).1 ∈ bb_TB := bb_tb (i := 295) (by decide +kernel) rfl
theorem wd_202 : Cond.selects (bb_md 67).1.cls (bb_md 67).1 (bb_md 67).1 ∈ bb_TB := bb_tb (i := 296) (by decide +kernel) rfl
theorem mV_67 : bb_mV 67 4 2 := ⟨⟨wd_201, wd_202, wd_200, wd_199⟩, ⟨by decide +kernel, by decide +kernel, by decide +kernel⟩, ⟨by decide +kernel, by decide +kernel⟩, ⟨by decide, by decide, by decide⟩, _, _, rfl⟩
theorem wd_203 : Cond.code (bb_md 68).1 (bb_md 68).2.1 (bb_md 68).2.2.1 (bb_md 68).2.2.2 ∈ bb_TB := bb_tb (i := 372) (by decide +kernel) rfl
theorem wd_204 : Cond.instanceMethod (bb_md 68).1 ∈ bb_TB := bb_tb (i := 370) (by decide +kernel) rfl
theorem wd_205 : Cond.selects (bb_md 68).1.cls (bb_md 68).1 (bb_md 68).1 ∈ bb_TB := bb_tb (i := 371) (by decide +kernel) rfl
theorem mV_68 : bb_mV 68 4 3 := ⟨⟨wd_204, wd_205, wd_200, wd_203⟩, ⟨by decide +kernel, by decide +kernel, by decide +kernel⟩, ⟨by decide +kernel, by decide +kernel⟩, ⟨by decide, by decide, by decide⟩, _, _, rfl⟩
theorem wd_206 : Cond.code (bb_md 69).1 (bb_md 69).2.1 (bb_md 69).2.2.1 (bb_md 69).2.2.2 ∈ bb_TB := bb_tb (i := 279) (by decide +kernel) rfl
theorem wd_207 : Cond.initialized RX5 ∈ bb_TB := bb_tb (i := 20) (by decide +kernel) rfl
theorem wd_208 : Cond.instanceMethod (bb_md 69).1 ∈ bb_TB := bb_tb (i := 277) (by decide +kernel) rfl
theorem wd_209 : Cond.selects (bb_md 69).1.cls (bb_md 69).1 (bb_md 69).1 ∈ bb_TB := bb_tb (i := 278) (by decide +kernel) rfl
theorem mV_69 : bb_mV 69 5 1 := ⟨⟨wd_208, wd_209, wd_207, wd_206⟩, ⟨by decide +kernel, by decide +kernel, by decide +kernel⟩, ⟨by decide +kernel, by decide +kernel⟩, ⟨by decide, by decide, by decide⟩, _, _, rfl⟩
theorem wd_210 : Cond.constant RJ6 265 (1431655765) ∈ bb_TB := bb_tb (i := 245) (by decide +kernel) rfl
theorem wd_211 : Cond.constant RJ6 266 (858993459) ∈ bb_TB := bb_tb (i := 246) (by decide +kernel) rfl
theorem wd_212 : Cond.constant RJ6 267 (252645135) ∈ bb_TB := bb_tb (i := 247) (by decide +kernel) rfl
theorem wd_213 : Cond.methodLink RX6 54 (bb_md 17).1 ∈ bb_TB := bb_tb (i := 284) (by decide +kernel) rfl
theorem wd_214 : Cond.methodLink RX6 58 (bb_md 18).1 ∈ bb_TB := bb_tb (i := 422) (by decide +kernel) rfl
theorem wd_215 : Cond.fieldLink RX6 12 "BeachBars" (TX6 0).2.1 (TX6 0).2.2.1 ∈ bb_TB := bb_tb (i := 172) (by decide +kernel) rfl
theorem wd_216 : Cond.methodLink RX6 64 (bb_md 44).1 ∈ bb_TB := bb_tb (i := 425) (by decide +kernel) rfl
theorem wd_217 : Cond.fieldLink RX6 25 "BeachBars" (TX6 4).2.1 (TX6 4).2.2.1 ∈ bb_TB := bb_tb (i := 175) (by decide +kernel) rfl
theorem wd_218 : Cond.methodLink RX6 68 (bb_md 27).1 ∈ bb_TB := bb_tb (i := 290) (by decide +kernel) rfl
theorem wd_219 : Cond.methodLink RX6 72 (bb_md 45).1 ∈ bb_TB := bb_tb (i := 433) (by decide +kernel) rfl
theorem wd_220 : Cond.fieldLink RX6 83 "BeachBars" "LEAST_SETTING" "[I" ∈ bb_TB := bb_tb (i := 445) (by decide +kernel) rfl
theorem wd_221 : Cond.fieldLink RX6 86 "BeachBars" "MOST_SETTING" "[I" ∈ bb_TB := bb_tb (i := 447) (by decide +kernel) rfl
theorem wd_222 : Cond.methodLink RX6 92 (bb_md 19).1 ∈ bb_TB := bb_tb (i := 287) (by decide +kernel) rfl
theorem wd_223 : Cond.methodLink RX6 99 (bb_md 30).1 ∈ bb_TB := bb_tb (i := 226) (by decide +kernel) rfl
theorem wd_224 : Cond.methodLink RX6 105 (bb_md 33).1 ∈ bb_TB := bb_tb (i := 311) (by decide +kernel) rfl
theorem wd_225 : Cond.methodLink RX6 122 (bb_md 34).1 ∈ bb_TB := bb_tb (i := 469) (by decide +kernel) rfl
theorem wd_226 : Cond.methodLink RX6 126 (bb_md 35).1 ∈ bb_TB := bb_tb (i := 473) (by decide +kernel) rfl
theorem wd_227 : Cond.methodLink RX6 129 (bb_md 22).1 ∈ bb_TB := bb_tb (i := 319) (by decide +kernel) rfl
theorem wd_228 : Cond.methodLink RX6 133 (bb_md 25).1 ∈ bb_TB := bb_tb (i := 378) (by decide +kernel) rfl
theorem wd_229 : Cond.methodLink RX6 136 (bb_md 36).1 ∈ bb_TB := bb_tb (i := 404) (by decide +kernel) rfl
theorem wd_230 : Cond.fieldLink RX6 16 "BeachBars" (TX6 1).2.1 (TX6 1).2.2.1 ∈ bb_TB := bb_tb (i := 173) (by decide +kernel) rfl
theorem wd_231 : Cond.methodLink RX6 139 (bb_md 67).1 ∈ bb_TB := bb_tb (i := 453) (by decide +kernel) rfl
theorem wd_232 : Cond.methodLink RX6 151 (bb_md 26).1 ∈ bb_TB := bb_tb (i := 272) (by decide +kernel) rfl
theorem wd_233 : Cond.methodLink RX6 152 (bb_md 28).1 ∈ bb_TB := bb_tb (i := 461) (by decide +kernel) rfl
theorem wd_234 : Cond.methodLink RX6 162 (bb_md 51).1 ∈ bb_TB := bb_tb (i := 426) (by decide +kernel) rfl
theorem wd_235 : Cond.methodLink RX6 166 (bb_md 52).1 ∈ bb_TB := bb_tb (i := 427) (by decide +kernel) rfl
theorem wd_236 : Cond.methodLink RX6 170 (bb_md 20).1 ∈ bb_TB := bb_tb (i := 428) (by decide +kernel) rfl
theorem wd_237 : Cond.methodLink RX6 173 (bb_md 49).1 ∈ bb_TB := bb_tb (i := 484) (by decide +kernel) rfl
theorem wd_238 : Cond.methodLink RX6 176 (bb_md 54).1 ∈ bb_TB := bb_tb (i := 488) (by decide +kernel) rfl
theorem wd_239 : Cond.methodLink RX6 179 (bb_md 1).1 ∈ bb_TB := bb_tb (i := 489) (by decide +kernel) rfl
theorem wd_240 : Cond.methodLink RX6 184 (bb_md 55).1 ∈ bb_TB := bb_tb (i := 490) (by decide +kernel) rfl
theorem wd_241 : Cond.methodLink RX6 188 (bb_md 59).1 ∈ bb_TB := bb_tb (i := 491) (by decide +kernel) rfl
theorem wd_242 : Cond.methodLink RX6 191 (bb_md 60).1 ∈ bb_TB := bb_tb (i := 495) (by decide +kernel) rfl
theorem wd_243 : Cond.methodLink RX6 194 (bb_md 61).1 ∈ bb_TB := bb_tb (i := 505) (by decide +kernel) rfl
theorem wd_244 : Cond.methodLink RX6 197 (bb_md 32).1 ∈ bb_TB := bb_tb (i := 331) (by decide +kernel) rfl
theorem wd_245 : Cond.methodLink RX6 200 (bb_md 31).1 ∈ bb_TB := bb_tb (i := 335) (by decide +kernel) rfl
theorem wd_246 : Cond.fieldLink RX6 46 "BeachBars" (TX6 7).2.1 (TX6 7).2.2.1 ∈ bb_TB := bb_tb (i := 178) (by decide +kernel) rfl
theorem wd_247 : Cond.methodLink RX6 209 (bb_md 43).1 ∈ bb_TB := bb_tb (i := 513) (by decide +kernel) rfl
theorem wd_248 : Cond.fieldLink RX6 39 "BeachBars" (TX6 6).2.1 (TX6 6).2.2.1 ∈ bb_TB := bb_tb (i := 177) (by decide +kernel) rfl
theorem wd_249 : Cond.methodLink RX6 212 (bb_md 21).1 ∈ bb_TB := bb_tb (i := 339) (by decide +kernel) rfl
theorem wd_250 : Cond.methodLink RX6 215 (bb_md 38).1 ∈ bb_TB := bb_tb (i := 343) (by decide +kernel) rfl
theorem wd_251 : Cond.methodLink RX6 219 (bb_md 37).1 ∈ bb_TB := bb_tb (i := 377) (by decide +kernel) rfl
theorem wd_252 : Cond.methodLink RX6 222 (bb_md 47).1 ∈ bb_TB := bb_tb (i := 522) (by decide +kernel) rfl
theorem wd_253 : Cond.methodLink RX6 159 (bb_md 48).1 ∈ bb_TB := bb_tb (i := 214) (by decide +kernel) rfl
theorem wd_254 : Cond.methodLink RX6 225 (bb_md 56).1 ∈ bb_TB := bb_tb (i := 230) (by decide +kernel) rfl
theorem wd_255 : Cond.methodLink RX6 228 (bb_md 57).1 ∈ bb_TB := bb_tb (i := 248) (by decide +kernel) rfl
theorem wd_256 : Cond.methodLink RX6 231 (bb_md 58).1 ∈ bb_TB := bb_tb (i := 268) (by decide +kernel) rfl
theorem wd_257 : Cond.fieldLink RX6 32 "BeachBars" (TX6 5).2.1 (TX6 5).2.2.1 ∈ bb_TB := bb_tb (i := 176) (by decide +kernel) rfl
theorem wd_258 : Cond.methodLink RX6 142 (bb_md 69).1 ∈ bb_TB := bb_tb (i := 276) (by decide +kernel) rfl
theorem wd_259 : Cond.methodLink RX6 234 (bb_md 23).1 ∈ bb_TB := bb_tb (i := 323) (by decide +kernel) rfl
theorem wd_260 : Cond.fieldLink RX6 50 "BeachBars" (TX6 8).2.1 (TX6 8).2.2.1 ∈ bb_TB := bb_tb (i := 179) (by decide +kernel) rfl
theorem wd_261 : Cond.methodLink RX6 237 (bb_md 68).1 ∈ bb_TB := bb_tb (i := 369) (by decide +kernel) rfl
theorem wd_262 : Cond.methodLink RX6 241 (bb_md 24).1 ∈ bb_TB := bb_tb (i := 327) (by decide +kernel) rfl
theorem wd_263 : Cond.methodLink RX6 244 (bb_md 62).1 ∈ bb_TB := bb_tb (i := 382) (by decide +kernel) rfl
theorem wd_264 : Cond.methodLink RX6 247 (bb_md 64).1 ∈ bb_TB := bb_tb (i := 391) (by decide +kernel) rfl
theorem wd_265 : Cond.fieldLink RX0 18 "BeachBars$History" (TX0 2).2.1 (TX0 2).2.2.1 ∈ bb_TB := bb_tb (i := 116) (by decide +kernel) rfl
theorem wd_266 : Cond.fieldLink RX0 11 "BeachBars$History" (TX0 0).2.1 (TX0 0).2.2.1 ∈ bb_TB := bb_tb (i := 114) (by decide +kernel) rfl
theorem wd_267 : Cond.fieldLink RX0 22 "BeachBars$History" (TX0 1).2.1 (TX0 1).2.2.1 ∈ bb_TB := bb_tb (i := 115) (by decide +kernel) rfl
theorem wd_268 : Cond.methodLink RX0 25 (bb_md 67).1 ∈ bb_TB := bb_tb (i := 294) (by decide +kernel) rfl
theorem wd_269 : Cond.methodLink RX0 29 Lib.Math.min.name ∈ bb_TB := bb_tb (i := 308) (by decide +kernel) rfl
theorem wd_270 : Cond.static Lib.Math.min.name ∈ bb_TB := bb_tb (i := 309) (by decide +kernel) rfl
theorem wd_271 : Cond.initialized "java/lang/Math" ∈ bb_TB := bb_tb (i := 23) (by decide +kernel) rfl
theorem wd_272 : Cond.code Lib.Math.min.name Lib.Math.min.code 2 (some .int) ∈ bb_TB := bb_tb (i := 310) (by decide +kernel) rfl
theorem wd_273 : Cond.fieldLink RX1 9 "BeachBars$Queue" (TX1 0).2.1 (TX1 0).2.2.1 ∈ bb_TB := bb_tb (i := 61) (by decide +kernel) rfl
theorem wd_274 : Cond.methodLink RX1 18 arraycopyName ∈ bb_TB := bb_tb (i := 307) (by decide +kernel) rfl
theorem wd_275 : Cond.native arraycopyName ∈ bb_TB := bb_tb (i := 75) (by decide +kernel) rfl
theorem wd_276 : Cond.static arraycopyName ∈ bb_TB := bb_tb (i := 74) (by decide +kernel) rfl
theorem wd_277 : Cond.initialized "java/lang/System" ∈ bb_TB := bb_tb (i := 18) (by decide +kernel) rfl
theorem wd_278 : Cond.fieldLink RX1 15 "BeachBars$Queue" (TX1 1).2.1 (TX1 1).2.2.1 ∈ bb_TB := bb_tb (i := 62) (by decide +kernel) rfl
theorem wd_279 : Cond.fieldLink RX1 24 "BeachBars$Queue" (TX1 2).2.1 (TX1 2).2.2.1 ∈ bb_TB := bb_tb (i := 63) (by decide +kernel) rfl
theorem wd_280 : Cond.fieldLink RX2 9 "BeachBars$Ride" (TX2 0).2.1 (TX2 0).2.2.1 ∈ bb_TB := bb_tb (i := 157) (by decide +kernel) rfl
theorem wd_281 : Cond.methodLink RX2 15 (bb_md 39).1 ∈ bb_TB := bb_tb (i := 347) (by decide +kernel) rfl
theorem wd_282 : Cond.methodLink RX2 19 (bb_md 44).1 ∈ bb_TB := bb_tb (i := 351) (by decide +kernel) rfl
theorem wd_283 : Cond.methodLink RX2 25 (bb_md 40).1 ∈ bb_TB := bb_tb (i := 352) (by decide +kernel) rfl
theorem wd_284 : Cond.methodLink RX2 28 (bb_md 41).1 ∈ bb_TB := bb_tb (i := 356) (by decide +kernel) rfl
theorem wd_285 : Cond.fieldLink RX2 32 "BeachBars$Ride" (TX2 1).2.1 (TX2 1).2.2.1 ∈ bb_TB := bb_tb (i := 160) (by decide +kernel) rfl
theorem wd_286 : Cond.fieldLink RX2 36 "BeachBars$Ride" (TX2 2).2.1 (TX2 2).2.2.1 ∈ bb_TB := bb_tb (i := 162) (by decide +kernel) rfl
theorem wd_287 : Cond.methodLink RX2 39 Lib.Math.min.name ∈ bb_TB := bb_tb (i := 360) (by decide +kernel) rfl
theorem wd_288 : Cond.methodLink RX2 44 (bb_md 42).1 ∈ bb_TB := bb_tb (i := 361) (by decide +kernel) rfl
theorem wd_289 : Cond.methodLink RX2 48 (bb_md 46).1 ∈ bb_TB := bb_tb (i := 365) (by decide +kernel) rfl
theorem wd_290 : Cond.fieldLink RX3 9 "BeachBars$Sand" (TX3 0).2.1 (TX3 0).2.2.1 ∈ bb_TB := bb_tb (i := 47) (by decide +kernel) rfl
theorem wd_291 : Cond.methodLink RX3 22 arraycopyName ∈ bb_TB := bb_tb (i := 302) (by decide +kernel) rfl
theorem wd_292 : Cond.methodLink RX3 28 (bb_md 44).1 ∈ bb_TB := bb_tb (i := 222) (by decide +kernel) rfl
theorem wd_293 : Cond.methodLink RX3 32 (bb_md 47).1 ∈ bb_TB := bb_tb (i := 218) (by decide +kernel) rfl
theorem wd_294 : Cond.methodLink RX3 35 (bb_md 50).1 ∈ bb_TB := bb_tb (i := 260) (by decide +kernel) rfl
theorem wd_295 : Cond.methodLink RX3 39 (bb_md 51).1 ∈ bb_TB := bb_tb (i := 238) (by decide +kernel) rfl
theorem wd_296 : Cond.methodLink RX3 42 (bb_md 53).1 ∈ bb_TB := bb_tb (i := 264) (by decide +kernel) rfl
theorem wd_297 : Cond.methodLink RX3 46 (bb_md 52).1 ∈ bb_TB := bb_tb (i := 256) (by decide +kernel) rfl
theorem wd_298 : Cond.methodLink RX3 49 (bb_md 54).1 ∈ bb_TB := bb_tb (i := 234) (by decide +kernel) rfl
theorem wd_299 : Cond.methodLink RX3 52 (bb_md 1).1 ∈ bb_TB := bb_tb (i := 242) (by decide +kernel) rfl
theorem wd_300 : Cond.methodLink RX3 57 (bb_md 55).1 ∈ bb_TB := bb_tb (i := 252) (by decide +kernel) rfl
theorem wd_301 : Cond.methodLink RX3 61 Lib.Math.abs.name ∈ bb_TB := bb_tb (i := 499) (by decide +kernel) rfl
theorem wd_302 : Cond.static Lib.Math.abs.name ∈ bb_TB := bb_tb (i := 500) (by decide +kernel) rfl
theorem wd_303 : Cond.code Lib.Math.abs.name Lib.Math.abs.code 1 (some .int) ∈ bb_TB := bb_tb (i := 501) (by decide +kernel) rfl
theorem wd_304 : Cond.methodLink RX3 66 Lib.Math.max.name ∈ bb_TB := bb_tb (i := 502) (by decide +kernel) rfl
theorem wd_305 : Cond.static Lib.Math.max.name ∈ bb_TB := bb_tb (i := 503) (by decide +kernel) rfl
theorem wd_306 : Cond.code Lib.Math.max.name Lib.Math.max.code 2 (some .int) ∈ bb_TB := bb_tb (i := 504) (by decide +kernel) rfl
theorem wd_307 : Cond.fieldLink RX3 15 "BeachBars$Sand" (TX3 1).2.1 (TX3 1).2.2.1 ∈ bb_TB := bb_tb (i := 48) (by decide +kernel) rfl
theorem wd_308 : Cond.methodLink RX3 69 (bb_md 63).1 ∈ bb_TB := bb_tb (i := 386) (by decide +kernel) rfl
theorem wd_309 : Cond.methodLink RX3 72 (bb_md 46).1 ∈ bb_TB := bb_tb (i := 390) (by decide +kernel) rfl
theorem wd_310 : Cond.methodLink RX3 76 (bb_md 65).1 ∈ bb_TB := bb_tb (i := 395) (by decide +kernel) rfl
theorem wd_311 : Cond.constant RX3 79 (1000000) ∈ bb_TB := bb_tb (i := 399) (by decide +kernel) rfl
theorem wd_312 : Cond.methodLink RX3 80 (bb_md 66).1 ∈ bb_TB := bb_tb (i := 400) (by decide +kernel) rfl
theorem wd_313 : Cond.fieldLink RX4 12 "BeachBars$State" (TX4 0).2.1 (TX4 0).2.2.1 ∈ bb_TB := bb_tb (i := 76) (by decide +kernel) rfl
theorem wd_314 : Cond.methodLink RX4 48 (bb_md 43).1 ∈ bb_TB := bb_tb (i := 298) (by decide +kernel) rfl
theorem wd_315 : Cond.fieldLink RX4 21 "BeachBars$State" (TX4 1).2.1 (TX4 1).2.2.1 ∈ bb_TB := bb_tb (i := 78) (by decide +kernel) rfl
theorem wd_316 : Cond.methodLink RX4 52 (bb_md 29).1 ∈ bb_TB := bb_tb (i := 303) (by decide +kernel) rfl
theorem wd_317 : Cond.fieldLink RX4 25 "BeachBars$State" (TX4 2).2.1 (TX4 2).2.2.1 ∈ bb_TB := bb_tb (i := 80) (by decide +kernel) rfl
theorem wd_318 : Cond.methodLink RX4 42 arraycopyName ∈ bb_TB := bb_tb (i := 73) (by decide +kernel) rfl
theorem wd_319 : Cond.fieldLink RX4 29 "BeachBars$State" (TX4 3).2.1 (TX4 3).2.2.1 ∈ bb_TB := bb_tb (i := 82) (by decide +kernel) rfl
theorem wd_320 : Cond.fieldLink RX4 32 "BeachBars$State" (TX4 4).2.1 (TX4 4).2.2.1 ∈ bb_TB := bb_tb (i := 84) (by decide +kernel) rfl
theorem wd_321 : Cond.fieldLink RX4 55 "BeachBars$State" (TX4 5).2.1 (TX4 5).2.2.1 ∈ bb_TB := bb_tb (i := 86) (by decide +kernel) rfl
theorem wd_322 : Cond.fieldLink RX4 35 "BeachBars$State" (TX4 6).2.1 (TX4 6).2.2.1 ∈ bb_TB := bb_tb (i := 88) (by decide +kernel) rfl
theorem wd_323 : Cond.methodLink RX4 69 (bb_md 37).1 ∈ bb_TB := bb_tb (i := 373) (by decide +kernel) rfl
theorem wd_324 : Cond.fieldLink RX5 22 "BeachBars$WaveText" (TX5 1).2.1 (TX5 1).2.2.1 ∈ bb_TB := bb_tb (i := 133) (by decide +kernel) rfl
