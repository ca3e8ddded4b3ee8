/-! SITES: each instruction of each method is the JVM's, by program (wip/whole/gen_sites.py) -/
theorem bb_inC {ws : List Cond} {ps : List Nat} (hp : ps.filterMap (fun i => lw_tbl[i]?) = ws) (h : ws.all goodWord = true) : ∀ w ∈ ws, w ∈ bb_TB := by
  intro w hw
  refine List.mem_filter.mpr ⟨?_, List.all_eq_true.mp h w hw⟩
  rw [← hp] at hw
  obtain ⟨i, -, hi⟩ := List.mem_filterMap.mp hw
  exact List.mem_of_getElem? hi
def bb_LS (P : Nat → bb_O → Prop) (L : List (Nat × bb_O)) : Prop := ∀ q ∈ L, P q.1 q.2
theorem bb_ln {P : Nat → bb_O → Prop} : bb_LS P [] := fun _ h => absurd h List.not_mem_nil
theorem bb_lc {P : Nat → bb_O → Prop} {pc : Nat} {o : bb_O} {L : List (Nat × bb_O)} (h : P pc o) (t : bb_LS P L) : bb_LS P ((pc, o) :: L) := List.forall_mem_cons.mpr ⟨h, t⟩
theorem bb_lkS {P : Nat → bb_O → Prop} (hf : ∀ pc, P pc bo_fail) : ∀ {L : List (Nat × bb_O)}, bb_LS P L → ∀ pc, P pc (bb_lk L pc)
  | [], _, pc => hf pc
  | (q, o) :: t, h, pc => by
    unfold bb_lk
    by_cases e : q = pc
    · rw [if_pos e, ← e]
      exact h (q, o) List.mem_cons_self
    · rw [if_neg e]
      exact bb_lkS hf (fun z hz => h z (List.mem_cons_of_mem _ hz)) pc
theorem wc_0 : ∀ w ∈ u_ws RX0 TX0 3, w ∈ bb_TB := bb_inC (ps := [155, 157, 159]) (by decide +kernel) (by decide +kernel)
theorem wc_1 : ∀ w ∈ u_ws RX1 TX1 3, w ∈ bb_TB := bb_inC (ps := [102, 104, 106]) (by decide +kernel) (by decide +kernel)
theorem wc_2 : ∀ w ∈ u_ws RX2 TX2 3, w ∈ bb_TB := bb_inC (ps := [205, 207, 209]) (by decide +kernel) (by decide +kernel)
theorem wc_3 : ∀ w ∈ u_ws RX3 TX3 2, w ∈ bb_TB := bb_inC (ps := [87, 89]) (by decide +kernel) (by decide +kernel)
theorem wc_4 : ∀ w ∈ u_ws RX4 TX4 7, w ∈ bb_TB := bb_inC (ps := [128, 130, 132, 134, 136, 138, 140]) (by decide +kernel) (by decide +kernel)
theorem wc_5 : ∀ w ∈ u_ws RX5 TX5 7, w ∈ bb_TB := bb_inC (ps := [177, 179, 181, 183, 185, 187, 189]) (by decide +kernel) (by decide +kernel)
theorem wc_6 : ∀ w ∈ u_ws RX6 TX6 9, w ∈ bb_TB := bb_inC (ps := [223, 225, 227, 229, 231, 233, 235, 237, 239]) (by decide +kernel) (by decide +kernel)
theorem wc_7 : ∀ w ∈ u_ws RX7 TX7 16, w ∈ bb_TB := bb_inC (ps := [640, 642, 644, 646, 648, 650, 652, 654, 656, 658, 660, 662, 664, 666, 668, 670]) (by decide +kernel) (by decide +kernel)
theorem wd_0 : Cond.code (bb_md 0).1 (bb_md 0).2.1 (bb_md 0).2.2.1 (bb_md 0).2.2.2 ∈ bb_TB := bb_tb (i := 683) (by decide +kernel) rfl
theorem wd_1 : Cond.initialized RX7 ∈ bb_TB := bb_tb (i := 59) (by decide +kernel) rfl
theorem wd_2 : Cond.static (bb_md 0).1 ∈ bb_TB := bb_tb (i := 682) (by decide +kernel) rfl
theorem mS_0 : bb_mS 0 3 := ⟨⟨wd_2, wd_1, wd_0⟩, ⟨by decide +kernel, by decide +kernel, by decide +kernel⟩, by decide +kernel, fun z => absurd rfl z⟩
theorem wd_3 : Cond.code (bb_md 1).1 (bb_md 1).2.1 (bb_md 1).2.2.1 (bb_md 1).2.2.2 ∈ bb_TB := bb_tb (i := 559) (by decide +kernel) rfl
theorem wd_4 : Cond.initialized RJ6 ∈ bb_TB := bb_tb (i := 61) (by decide +kernel) rfl
theorem wd_5 : Cond.static (bb_md 1).1 ∈ bb_TB := bb_tb (i := 558) (by decide +kernel) rfl
theorem mS_1 : bb_mS 1 1 := ⟨⟨wd_5, wd_4, wd_3⟩, ⟨by decide +kernel, by decide +kernel, by decide +kernel⟩, by decide +kernel, fun _ => by decide +kernel⟩
theorem wd_6 : Cond.code (bb_md 2).1 (bb_md 2).2.1 (bb_md 2).2.2.1 (bb_md 2).2.2.2 ∈ bb_TB := bb_tb (i := 245) (by decide +kernel) rfl
theorem wd_7 : Cond.initialized RX6 ∈ bb_TB := bb_tb (i := 51) (by decide +kernel) rfl
theorem wd_8 : Cond.instanceMethod (bb_md 2).1 ∈ bb_TB := bb_tb (i := 243) (by decide +kernel) rfl
theorem wd_9 : Cond.selects (bb_md 2).1.cls (bb_md 2).1 (bb_md 2).1 ∈ bb_TB := bb_tb (i := 244) (by decide +kernel) rfl
theorem mV_2 : bb_mV 2 6 4 := ⟨⟨wd_8, wd_9, wd_7, wd_6⟩, ⟨by decide +kernel, by decide +kernel, by decide +kernel⟩, ⟨by decide +kernel, by decide +kernel⟩, ⟨by decide, by decide, by decide⟩, _, _, rfl⟩
theorem wd_10 : Cond.code (bb_md 3).1 (bb_md 3).2.1 (bb_md 3).2.2.1 (bb_md 3).2.2.2 ∈ bb_TB := bb_tb (i := 284) (by decide +kernel) rfl
theorem wd_11 : Cond.instanceMethod (bb_md 3).1 ∈ bb_TB := bb_tb (i := 282) (by decide +kernel) rfl
theorem wd_12 : Cond.selects (bb_md 3).1.cls (bb_md 3).1 (bb_md 3).1 ∈ bb_TB := bb_tb (i := 283) (by decide +kernel) rfl
theorem mV_3 : bb_mV 3 6 2 := ⟨⟨wd_11, wd_12, wd_7, wd_10⟩, ⟨by decide +kernel, by decide +kernel, by decide +kernel⟩, ⟨by decide +kernel, by decide +kernel⟩, ⟨by decide, by decide, by decide⟩, _, _, rfl⟩
theorem wd_13 : Cond.code (bb_md 4).1 (bb_md 4).2.1 (bb_md 4).2.2.1 (bb_md 4).2.2.2 ∈ bb_TB := bb_tb (i := 288) (by decide +kernel) rfl
theorem wd_14 : Cond.instanceMethod (bb_md 4).1 ∈ bb_TB := bb_tb (i := 286) (by decide +kernel) rfl
theorem wd_15 : Cond.selects (bb_md 4).1.cls (bb_md 4).1 (bb_md 4).1 ∈ bb_TB := bb_tb (i := 287) (by decide +kernel) rfl
theorem mV_4 : bb_mV 4 6 3 := ⟨⟨wd_14, wd_15, wd_7, wd_13⟩, ⟨by decide +kernel, by decide +kernel, by decide +kernel⟩, ⟨by decide +kernel, by decide +kernel⟩, ⟨by decide, by decide, by decide⟩, _, _, rfl⟩
theorem wd_16 : Cond.code (bb_md 5).1 (bb_md 5).2.1 (bb_md 5).2.2.1 (bb_md 5).2.2.2 ∈ bb_TB := bb_tb (i := 296) (by decide +kernel) rfl
theorem wd_17 : Cond.instanceMethod (bb_md 5).1 ∈ bb_TB := bb_tb (i := 294) (by decide +kernel) rfl
theorem wd_18 : Cond.selects (bb_md 5).1.cls (bb_md 5).1 (bb_md 5).1 ∈ bb_TB := bb_tb (i := 295) (by decide +kernel) rfl
theorem mV_5 : bb_mV 5 6 3 := ⟨⟨wd_17, wd_18, wd_7, wd_16⟩, ⟨by decide +kernel, by decide +kernel, by decide +kernel⟩, ⟨by decide +kernel, by decide +kernel⟩, ⟨by decide, by decide, by decide⟩, _, _, rfl⟩
theorem wd_19 : Cond.code (bb_md 6).1 (bb_md 6).2.1 (bb_md 6).2.2.1 (bb_md 6).2.2.2 ∈ bb_TB := bb_tb (i := 311) (by decide +kernel) rfl
theorem wd_20 : Cond.instanceMethod (bb_md 6).1 ∈ bb_TB := bb_tb (i := 309) (by decide +kernel) rfl
theorem wd_21 : Cond.selects (bb_md 6).1.cls (bb_md 6).1 (bb_md 6).1 ∈ bb_TB := bb_tb (i := 310) (by decide +kernel) rfl
theorem mV_6 : bb_mV 6 6 1 := ⟨⟨wd_20, wd_21, wd_7, wd_19⟩, ⟨by decide +kernel, by decide +kernel, by decide +kernel⟩, ⟨by decide +kernel, by decide +kernel⟩, ⟨by decide, by decide, by decide⟩, _, _, rfl⟩
theorem wd_22 : Cond.code (bb_md 7).1 (bb_md 7).2.1 (bb_md 7).2.2.1 (bb_md 7).2.2.2 ∈ bb_TB := bb_tb (i := 365) (by decide +kernel) rfl
theorem wd_23 : Cond.instanceMethod (bb_md 7).1 ∈ bb_TB := bb_tb (i := 363) (by decide +kernel) rfl
theorem wd_24 : Cond.selects (bb_md 7).1.cls (bb_md 7).1 (bb_md 7).1 ∈ bb_TB := bb_tb (i := 364) (by decide +kernel) rfl
theorem mV_7 : bb_mV 7 6 3 := ⟨⟨wd_23, wd_24, wd_7, wd_22⟩, ⟨by decide +kernel, by decide +kernel, by decide +kernel⟩, ⟨by decide +kernel, by decide +kernel⟩, ⟨by decide, by decide, by decide⟩, _, _, rfl⟩
theorem wd_25 : Cond.code (bb_md 8).1 (bb_md 8).2.1 (bb_md 8).2.2.1 (bb_md 8).2.2.2 ∈ bb_TB := bb_tb (i := 377) (by decide +kernel) rfl
theorem wd_26 : Cond.instanceMethod (bb_md 8).1 ∈ bb_TB := bb_tb (i := 375) (by decide +kernel) rfl
theorem wd_27 : Cond.selects (bb_md 8).1.cls (bb_md 8).1 (bb_md 8).1 ∈ bb_TB := bb_tb (i := 376) (by decide +kernel) rfl
theorem mV_8 : bb_mV 8 6 2 := ⟨⟨wd_26, wd_27, wd_7, wd_25⟩, ⟨by decide +kernel, by decide +kernel, by decide +kernel⟩, ⟨by decide +kernel, by decide +kernel⟩, ⟨by decide, by decide, by decide⟩, _, _, rfl⟩
theorem wd_28 : Cond.code (bb_md 9).1 (bb_md 9).2.1 (bb_md 9).2.2.1 (bb_md 9).2.2.2 ∈ bb_TB := bb_tb (i := 488) (by decide +kernel) rfl
theorem wd_29 : Cond.instanceMethod (bb_md 9).1 ∈ bb_TB := bb_tb (i := 486) (by decide +kernel) rfl
theorem wd_30 : Cond.selects (bb_md 9).1.cls (bb_md 9).1 (bb_md 9).1 ∈ bb_TB := bb_tb (i := 487) (by decide +kernel) rfl
theorem mV_9 : bb_mV 9 6 1 := ⟨⟨wd_29, wd_30, wd_7, wd_28⟩, ⟨by decide +kernel, by decide +kernel, by decide +kernel⟩, ⟨by decide +kernel, by decide +kernel⟩, ⟨by decide, by decide, by decide⟩, _, _, rfl⟩
theorem wd_31 : Cond.code (bb_md 10).1 (bb_md 10).2.1 (bb_md 10).2.2.1 (bb_md 10).2.2.2 ∈ bb_TB := bb_tb (i := 493) (by decide +kernel) rfl
theorem wd_32 : Cond.instanceMethod (bb_md 10).1 ∈ bb_TB := bb_tb (i := 491) (by decide +kernel) rfl
theorem wd_33 : Cond.selects (bb_md 10).1.cls (bb_md 10).1 (bb_md 10).1 ∈ bb_TB := bb_tb (i := 492) (by decide +kernel) rfl
theorem mV_10 : bb_mV 10 6 2 := ⟨⟨wd_32, wd_33, wd_7, wd_31⟩, ⟨by decide +kernel, by decide +kernel, by decide +kernel⟩, ⟨by decide +kernel, by decide +kernel⟩, ⟨by decide, by decide, by decide⟩, _, _, rfl⟩
theorem wd_34 : Cond.code (bb_md 11).1 (bb_md 11).2.1 (bb_md 11).2.2.1 (bb_md 11).2.2.2 ∈ bb_TB := bb_tb (i := 505) (by decide +kernel) rfl
theorem wd_35 : Cond.instanceMethod (bb_md 11).1 ∈ bb_TB := bb_tb (i := 503) (by decide +kernel) rfl
theorem wd_36 : Cond.selects (bb_md 11).1.cls (bb_md 11).1 (bb_md 11).1 ∈ bb_TB := bb_tb (i := 504) (by decide +kernel) rfl
theorem mV_11 : bb_mV 11 6 1 := ⟨⟨wd_35, wd_36, wd_7, wd_34⟩, ⟨by decide +kernel, by decide +kernel, by decide +kernel⟩, ⟨by decide +kernel, by decide +kernel⟩, ⟨by decide, by decide, by decide⟩, _, _, rfl⟩
theorem wd_37 : Cond.code (bb_md 12).1 (bb_md 12).2.1 (bb_md 12).2.2.1 (bb_md 12).2.2.2 ∈ bb_TB := bb_tb (i := 513) (by decide +kernel) rfl
theorem wd_38 : Cond.instanceMethod (bb_md 12).1 ∈ bb_TB := bb_tb (i := 511) (by decide +kernel) rfl
theorem wd_39 : Cond.selects (bb_md 12).1.cls (bb_md 12).1 (bb_md 12).1 ∈ bb_TB := bb_tb (i := 512) (by decide +kernel) rfl
theorem mV_12 : bb_mV 12 6 1 := ⟨⟨wd_38, wd_39, wd_7, wd_37⟩, ⟨by decide +kernel, by decide +kernel, by decide +kernel⟩, ⟨by decide +kernel, by decide +kernel⟩, ⟨by decide, by decide, by decide⟩, _, _, rfl⟩
theorem wd_40 : Cond.code (bb_md 13).1 (bb_md 13).2.1 (bb_md 13).2.2.1 (bb_md 13).2.2.2 ∈ bb_TB := bb_tb (i := 525) (by decide +kernel) rfl
theorem wd_41 : Cond.instanceMethod (bb_md 13).1 ∈ bb_TB := bb_tb (i := 523) (by decide +kernel) rfl
theorem wd_42 : Cond.selects (bb_md 13).1.cls (bb_md 13).1 (bb_md 13).1 ∈ bb_TB := bb_tb (i := 524) (by decide +kernel) rfl
theorem mV_13 : bb_mV 13 6 1 := ⟨⟨wd_41, wd_42, wd_7, wd_40⟩, ⟨by decide +kernel, by decide +kernel, by decide +kernel⟩, ⟨by decide +kernel, by decide +kernel⟩, ⟨by decide, by decide, by decide⟩, _, _, rfl⟩
theorem wd_43 : Cond.code (bb_md 14).1 (bb_md 14).2.1 (bb_md 14).2.2.1 (bb_md 14).2.2.2 ∈ bb_TB := bb_tb (i := 537) (by decide +kernel) rfl
theorem wd_44 : Cond.instanceMethod (bb_md 14).1 ∈ bb_TB := bb_tb (i := 535) (by decide +kernel) rfl
theorem wd_45 : Cond.selects (bb_md 14).1.cls (bb_md 14).1 (bb_md 14).1 ∈ bb_TB := bb_tb (i := 536) (by decide +kernel) rfl
theorem mV_14 : bb_mV 14 6 1 := ⟨⟨wd_44, wd_45, wd_7, wd_43⟩, ⟨by decide +kernel, by decide +kernel, by decide +kernel⟩, ⟨by decide +kernel, by decide +kernel⟩, ⟨by decide, by decide, by decide⟩, _, _, rfl⟩
theorem wd_46 : Cond.code (bb_md 15).1 (bb_md 15).2.1 (bb_md 15).2.2.1 (bb_md 15).2.2.2 ∈ bb_TB := bb_tb (i := 541) (by decide +kernel) rfl
theorem wd_47 : Cond.instanceMethod (bb_md 15).1 ∈ bb_TB := bb_tb (i := 539) (by decide +kernel) rfl
theorem wd_48 : Cond.selects (bb_md 15).1.cls (bb_md 15).1 (bb_md 15).1 ∈ bb_TB := bb_tb (i := 540) (by decide +kernel) rfl
theorem mV_15 : bb_mV 15 6 4 := ⟨⟨wd_47, wd_48, wd_7, wd_46⟩, ⟨by decide +kernel, by decide +kernel, by decide +kernel⟩, ⟨by decide +kernel, by decide +kernel⟩, ⟨by decide, by decide, by decide⟩, _, _, rfl⟩
theorem wd_49 : Cond.code (bb_md 16).1 (bb_md 16).2.1 (bb_md 16).2.2.1 (bb_md 16).2.2.2 ∈ bb_TB := bb_tb (i := 548) (by decide +kernel) rfl
theorem wd_50 : Cond.instanceMethod (bb_md 16).1 ∈ bb_TB := bb_tb (i := 546) (by decide +kernel) rfl
theorem wd_51 : Cond.selects (bb_md 16).1.cls (bb_md 16).1 (bb_md 16).1 ∈ bb_TB := bb_tb (i := 547) (by decide +kernel) rfl
theorem mV_16 : bb_mV 16 6 3 := ⟨⟨wd_50, wd_51, wd_7, wd_49⟩, ⟨by decide +kernel, by decide +kernel, by decide +kernel⟩, ⟨by decide +kernel, by decide +kernel⟩, ⟨by decide, by decide, by decide⟩, _, _, rfl⟩
theorem wd_52 : Cond.code (bb_md 17).1 (bb_md 17).2.1 (bb_md 17).2.2.1 (bb_md 17).2.2.2 ∈ bb_TB := bb_tb (i := 585) (by decide +kernel) rfl
theorem wd_53 : Cond.instanceMethod (bb_md 17).1 ∈ bb_TB := bb_tb (i := 583) (by decide +kernel) rfl
theorem wd_54 : Cond.selects (bb_md 17).1.cls (bb_md 17).1 (bb_md 17).1 ∈ bb_TB := bb_tb (i := 584) (by decide +kernel) rfl
theorem mV_17 : bb_mV 17 6 3 := ⟨⟨wd_53, wd_54, wd_7, wd_52⟩, ⟨by decide +kernel, by decide +kernel, by decide +kernel⟩, ⟨by decide +kernel, by decide +kernel⟩, ⟨by decide, by decide, by decide⟩, _, _, rfl⟩
theorem wd_55 : Cond.code (bb_md 18).1 (bb_md 18).2.1 (bb_md 18).2.2.1 (bb_md 18).2.2.2 ∈ bb_TB := bb_tb (i := 589) (by decide +kernel) rfl
theorem wd_56 : Cond.instanceMethod (bb_md 18).1 ∈ bb_TB := bb_tb (i := 587) (by decide +kernel) rfl
theorem wd_57 : Cond.selects (bb_md 18).1.cls (bb_md 18).1 (bb_md 18).1 ∈ bb_TB := bb_tb (i := 588) (by decide +kernel) rfl
theorem mV_18 : bb_mV 18 6 3 := ⟨⟨wd_56, wd_57, wd_7, wd_55⟩, ⟨by decide +kernel, by decide +kernel, by decide +kernel⟩, ⟨by decide +kernel, by decide +kernel⟩, ⟨by decide, by decide, by decide⟩, _, _, rfl⟩
theorem wd_58 : Cond.code (bb_md 19).1 (bb_md 19).2.1 (bb_md 19).2.2.1 (bb_md 19).2.2.2 ∈ bb_TB := bb_tb (i := 593) (by decide +kernel) rfl
theorem wd_59 : Cond.instanceMethod (bb_md 19).1 ∈ bb_TB := bb_tb (i := 591) (by decide +kernel) rfl
theorem wd_60 : Cond.selects (bb_md 19).1.cls (bb_md 19).1 (bb_md 19).1 ∈ bb_TB := bb_tb (i := 592) (by decide +kernel) rfl
theorem mV_19 : bb_mV 19 6 4 := ⟨⟨wd_59, wd_60, wd_7, wd_58⟩, ⟨by decide +kernel, by decide +kernel, by decide +kernel⟩, ⟨by decide +kernel, by decide +kernel⟩, ⟨by decide, by decide, by decide⟩, _, _, rfl⟩
theorem wd_61 : Cond.code (bb_md 20).1 (bb_md 20).2.1 (bb_md 20).2.2.1 (bb_md 20).2.2.2 ∈ bb_TB := bb_tb (i := 598) (by decide +kernel) rfl
theorem wd_62 : Cond.instanceMethod (bb_md 20).1 ∈ bb_TB := bb_tb (i := 596) (by decide +kernel) rfl
theorem wd_63 : Cond.selects (bb_md 20).1.cls (bb_md 20).1 (bb_md 20).1 ∈ bb_TB := bb_tb (i := 597) (by decide +kernel) rfl
theorem mV_20 : bb_mV 20 6 3 := ⟨⟨wd_62, wd_63, wd_7, wd_61⟩, ⟨by decide +kernel, by decide +kernel, by decide +kernel⟩, ⟨by decide +kernel, by decide +kernel⟩, ⟨by decide, by decide, by decide⟩, _, _, rfl⟩
theorem wd_64 : Cond.code (bb_md 21).1 (bb_md 21).2.1 (bb_md 21).2.2.1 (bb_md 21).2.2.2 ∈ bb_TB := bb_tb (i := 603) (by decide +kernel) rfl
theorem wd_65 : Cond.instanceMethod (bb_md 21).1 ∈ bb_TB := bb_tb (i := 601) (by decide +kernel) rfl
theorem wd_66 : Cond.selects (bb_md 21).1.cls (bb_md 21).1 (bb_md 21).1 ∈ bb_TB := bb_tb (i := 602) (by decide +kernel) rfl
theorem mV_21 : bb_mV 21 6 2 := ⟨⟨wd_65, wd_66, wd_7, wd_64⟩, ⟨by decide +kernel, by decide +kernel, by decide +kernel⟩, ⟨by decide +kernel, by decide +kernel⟩, ⟨by decide, by decide, by decide⟩, _, _, rfl⟩
theorem wd_67 : Cond.code (bb_md 22).1 (bb_md 22).2.1 (bb_md 22).2.2.1 (bb_md 22).2.2.2 ∈ bb_TB := bb_tb (i := 248) (by decide +kernel) rfl
theorem wd_68 : Cond.static (bb_md 22).1 ∈ bb_TB := bb_tb (i := 247) (by decide +kernel) rfl
theorem mS_22 : bb_mS 22 1 := ⟨⟨wd_68, wd_7, wd_67⟩, ⟨by decide +kernel, by decide +kernel, by decide +kernel⟩, by decide +kernel, fun _ => by decide +kernel⟩
theorem wd_69 : Cond.code (bb_md 23).1 (bb_md 23).2.1 (bb_md 23).2.2.1 (bb_md 23).2.2.2 ∈ bb_TB := bb_tb (i := 251) (by decide +kernel) rfl
theorem wd_70 : Cond.static (bb_md 23).1 ∈ bb_TB := bb_tb (i := 250) (by decide +kernel) rfl
theorem mS_23 : bb_mS 23 1 := ⟨⟨wd_70, wd_7, wd_69⟩, ⟨by decide +kernel, by decide +kernel, by decide +kernel⟩, by decide +kernel, fun _ => by decide +kernel⟩
theorem wd_71 : Cond.code (bb_md 24).1 (bb_md 24).2.1 (bb_md 24).2.2.1 (bb_md 24).2.2.2 ∈ bb_TB := bb_tb (i := 299) (by decide +kernel) rfl
theorem wd_72 : Cond.static (bb_md 24).1 ∈ bb_TB := bb_tb (i := 298) (by decide +kernel) rfl
theorem mS_24 : bb_mS 24 1 := ⟨⟨wd_72, wd_7, wd_71⟩, ⟨by decide +kernel, by decide +kernel, by decide +kernel⟩, by decide +kernel, fun _ => by decide +kernel⟩
theorem wd_73 : Cond.code (bb_md 25).1 (bb_md 25).2.1 (bb_md 25).2.2.1 (bb_md 25).2.2.2 ∈ bb_TB := bb_tb (i := 84) (by decide +kernel) rfl
theorem wd_74 : Cond.static (bb_md 25).1 ∈ bb_TB := bb_tb (i := 83) (by decide +kernel) rfl
theorem mS_25 : bb_mS 25 1 := ⟨⟨wd_74, wd_7, wd_73⟩, ⟨by decide +kernel, by decide +kernel, by decide +kernel⟩, by decide +kernel, fun _ => by decide +kernel⟩
theorem wd_75 : Cond.code (bb_md 26).1 (bb_md 26).2.1 (bb_md 26).2.2.1 (bb_md 26).2.2.2 ∈ bb_TB := bb_tb (i := 401) (by decide +kernel) rfl
theorem wd_76 : Cond.instanceMethod (bb_md 26).1 ∈ bb_TB := bb_tb (i := 400) (by decide +kernel) rfl
theorem wd_77 : Cond.selects (bb_md 26).1.cls (bb_md 26).1 (bb_md 26).1 ∈ bb_TB := bb_tb (i := 10) (by decide +kernel) rfl
theorem mV_26 : bb_mV 26 6 2 := ⟨⟨wd_76, wd_77, wd_7, wd_75⟩, ⟨by decide +kernel, by decide +kernel, by decide +kernel⟩, ⟨by decide +kernel, by decide +kernel⟩, ⟨by decide, by decide, by decide⟩, _, _, rfl⟩
theorem wd_78 : Cond.code (bb_md 27).1 (bb_md 27).2.1 (bb_md 27).2.2.1 (bb_md 27).2.2.2 ∈ bb_TB := bb_tb (i := 381) (by decide +kernel) rfl
theorem wd_79 : Cond.instanceMethod (bb_md 27).1 ∈ bb_TB := bb_tb (i := 380) (by decide +kernel) rfl
theorem wd_80 : Cond.selects (bb_md 27).1.cls (bb_md 27).1 (bb_md 27).1 ∈ bb_TB := bb_tb (i := 7) (by decide +kernel) rfl
theorem mV_27 : bb_mV 27 6 2 := ⟨⟨wd_79, wd_80, wd_7, wd_78⟩, ⟨by decide +kernel, by decide +kernel, by decide +kernel⟩, ⟨by decide +kernel, by decide +kernel⟩, ⟨by decide, by decide, by decide⟩, _, _, rfl⟩
theorem wd_81 : Cond.code (bb_md 28).1 (bb_md 28).2.1 (bb_md 28).2.2.1 (bb_md 28).2.2.2 ∈ bb_TB := bb_tb (i := 385) (by decide +kernel) rfl
theorem wd_82 : Cond.instanceMethod (bb_md 28).1 ∈ bb_TB := bb_tb (i := 384) (by decide +kernel) rfl
theorem wd_83 : Cond.selects (bb_md 28).1.cls (bb_md 28).1 (bb_md 28).1 ∈ bb_TB := bb_tb (i := 8) (by decide +kernel) rfl
theorem mV_28 : bb_mV 28 6 1 := ⟨⟨wd_82, wd_83, wd_7, wd_81⟩, ⟨by decide +kernel, by decide +kernel, by decide +kernel⟩, ⟨by decide +kernel, by decide +kernel⟩, ⟨by decide, by decide, by decide⟩, _, _, rfl⟩
theorem wd_84 : Cond.code (bb_md 29).1 (bb_md 29).2.1 (bb_md 29).2.2.1 (bb_md 29).2.2.2 ∈ bb_TB := bb_tb (i := 389) (by decide +kernel) rfl
theorem wd_85 : Cond.instanceMethod (bb_md 29).1 ∈ bb_TB := bb_tb (i := 388) (by decide +kernel) rfl
theorem wd_86 : Cond.selects (bb_md 29).1.cls (bb_md 29).1 (bb_md 29).1 ∈ bb_TB := bb_tb (i := 9) (by decide +kernel) rfl
theorem mV_29 : bb_mV 29 6 3 := ⟨⟨wd_85, wd_86, wd_7, wd_84⟩, ⟨by decide +kernel, by decide +kernel, by decide +kernel⟩, ⟨by decide +kernel, by decide +kernel⟩, ⟨by decide, by decide, by decide⟩, _, _, rfl⟩
theorem wd_87 : Cond.code (bb_md 30).1 (bb_md 30).2.1 (bb_md 30).2.2.1 (bb_md 30).2.2.2 ∈ bb_TB := bb_tb (i := 440) (by decide +kernel) rfl
theorem wd_88 : Cond.instanceMethod (bb_md 30).1 ∈ bb_TB := bb_tb (i := 439) (by decide +kernel) rfl
theorem wd_89 : Cond.selects (bb_md 30).1.cls (bb_md 30).1 (bb_md 30).1 ∈ bb_TB := bb_tb (i := 15) (by decide +kernel) rfl
theorem mV_30 : bb_mV 30 6 2 := ⟨⟨wd_88, wd_89, wd_7, wd_87⟩, ⟨by decide +kernel, by decide +kernel, by decide +kernel⟩, ⟨by decide +kernel, by decide +kernel⟩, ⟨by decide, by decide, by decide⟩, _, _, rfl⟩
theorem wd_90 : Cond.code (bb_md 31).1 (bb_md 31).2.1 (bb_md 31).2.2.1 (bb_md 31).2.2.2 ∈ bb_TB := bb_tb (i := 696) (by decide +kernel) rfl
theorem wd_91 : Cond.instanceMethod (bb_md 31).1 ∈ bb_TB := bb_tb (i := 695) (by decide +kernel) rfl
theorem wd_92 : Cond.selects (bb_md 31).1.cls (bb_md 31).1 (bb_md 31).1 ∈ bb_TB := bb_tb (i := 21) (by decide +kernel) rfl
theorem mV_31 : bb_mV 31 7 1 := ⟨⟨wd_91, wd_92, wd_1, wd_90⟩, ⟨by decide +kernel, by decide +kernel, by decide +kernel⟩, ⟨by decide +kernel, by decide +kernel⟩, ⟨by decide, by decide, by decide⟩, _, _, rfl⟩
theorem wd_93 : Cond.code (bb_md 32).1 (bb_md 32).2.1 (bb_md 32).2.2.1 (bb_md 32).2.2.2 ∈ bb_TB := bb_tb (i := 700) (by decide +kernel) rfl
theorem wd_94 : Cond.instanceMethod (bb_md 32).1 ∈ bb_TB := bb_tb (i := 699) (by decide +kernel) rfl
theorem wd_95 : Cond.selects (bb_md 32).1.cls (bb_md 32).1 (bb_md 32).1 ∈ bb_TB := bb_tb (i := 22) (by decide +kernel) rfl
theorem mV_32 : bb_mV 32 7 2 := ⟨⟨wd_94, wd_95, wd_1, wd_93⟩, ⟨by decide +kernel, by decide +kernel, by decide +kernel⟩, ⟨by decide +kernel, by decide +kernel⟩, ⟨by decide, by decide, by decide⟩, _, _, rfl⟩
theorem wd_96 : Cond.code (bb_md 33).1 (bb_md 33).2.1 (bb_md 33).2.2.1 (bb_md 33).2.2.2 ∈ bb_TB := bb_tb (i := 679) (by decide +kernel) rfl
theorem wd_97 : Cond.static (bb_md 33).1 ∈ bb_TB := bb_tb (i := 678) (by decide +kernel) rfl
theorem mS_33 : bb_mS 33 1 := ⟨⟨wd_97, wd_1, wd_96⟩, ⟨by decide +kernel, by decide +kernel, by decide +kernel⟩, by decide +kernel, fun _ => by decide +kernel⟩
theorem wd_98 : Cond.code (bb_md 34).1 (bb_md 34).2.1 (bb_md 34).2.2.1 (bb_md 34).2.2.2 ∈ bb_TB := bb_tb (i := 686) (by decide +kernel) rfl
theorem wd_99 : Cond.static (bb_md 34).1 ∈ bb_TB := bb_tb (i := 685) (by decide +kernel) rfl
theorem mS_34 : bb_mS 34 1 := ⟨⟨wd_99, wd_1, wd_98⟩, ⟨by decide +kernel, by decide +kernel, by decide +kernel⟩, by decide +kernel, fun _ => by decide +kernel⟩
theorem wd_100 : Cond.code (bb_md 35).1 (bb_md 35).2.1 (bb_md 35).2.2.1 (bb_md 35).2.2.2 ∈ bb_TB := bb_tb (i := 692) (by decide +kernel) rfl
theorem wd_101 : Cond.instanceMethod (bb_md 35).1 ∈ bb_TB := bb_tb (i := 691) (by decide +kernel) rfl
theorem wd_102 : Cond.selects (bb_md 35).1.cls (bb_md 35).1 (bb_md 35).1 ∈ bb_TB := bb_tb (i := 20) (by decide +kernel) rfl
theorem mV_35 : bb_mV 35 7 3 := ⟨⟨wd_101, wd_102, wd_1, wd_100⟩, ⟨by decide +kernel, by decide +kernel, by decide +kernel⟩, ⟨by decide +kernel, by decide +kernel⟩, ⟨by decide, by decide, by decide⟩, _, _, rfl⟩
theorem wd_103 : Cond.code (bb_md 36).1 (bb_md 36).2.1 (bb_md 36).2.2.1 (bb_md 36).2.2.2 ∈ bb_TB := bb_tb (i := 763) (by decide +kernel) rfl
theorem wd_104 : Cond.instanceMethod (bb_md 36).1 ∈ bb_TB := bb_tb (i := 762) (by decide +kernel) rfl
theorem wd_105 : Cond.selects (bb_md 36).1.cls (bb_md 36).1 (bb_md 36).1 ∈ bb_TB := bb_tb (i := 30) (by decide +kernel) rfl
theorem mV_36 : bb_mV 36 7 3 := ⟨⟨wd_104, wd_105, wd_1, wd_103⟩, ⟨by decide +kernel, by decide +kernel, by decide +kernel⟩, ⟨by decide +kernel, by decide +kernel⟩, ⟨by decide, by decide, by decide⟩, _, _, rfl⟩
theorem wd_106 : Cond.code (bb_md 37).1 (bb_md 37).2.1 (bb_md 37).2.2.1 (bb_md 37).2.2.2 ∈ bb_TB := bb_tb (i := 759) (by decide +kernel) rfl
theorem wd_107 : Cond.instanceMethod (bb_md 37).1 ∈ bb_TB := bb_tb (i := 758) (by decide +kernel) rfl
theorem wd_108 : Cond.selects (bb_md 37).1.cls (bb_md 37).1 (bb_md 37).1 ∈ bb_TB := bb_tb (i := 29) (by decide +kernel) rfl
theorem mV_37 : bb_mV 37 7 3 := ⟨⟨wd_107, wd_108, wd_1, wd_106⟩, ⟨by decide +kernel, by decide +kernel, by decide +kernel⟩, ⟨by decide +kernel, by decide +kernel⟩, ⟨by decide, by decide, by decide⟩, _, _, rfl⟩
theorem wd_109 : Cond.code (bb_md 38).1 (bb_md 38).2.1 (bb_md 38).2.2.1 (bb_md 38).2.2.2 ∈ bb_TB := bb_tb (i := 780) (by decide +kernel) rfl
theorem wd_110 : Cond.instanceMethod (bb_md 38).1 ∈ bb_TB := bb_tb (i := 779) (by decide +kernel) rfl
theorem wd_111 : Cond.selects (bb_md 38).1.cls (bb_md 38).1 (bb_md 38).1 ∈ bb_TB := bb_tb (i := 34) (by decide +kernel) rfl
theorem mV_38 : bb_mV 38 7 3 := ⟨⟨wd_110, wd_111, wd_1, wd_109⟩, ⟨by decide +kernel, by decide +kernel, by decide +kernel⟩, ⟨by decide +kernel, by decide +kernel⟩, ⟨by decide, by decide, by decide⟩, _, _, rfl⟩
theorem wd_112 : Cond.code (bb_md 39).1 (bb_md 39).2.1 (bb_md 39).2.2.1 (bb_md 39).2.2.2 ∈ bb_TB := bb_tb (i := 784) (by decide +kernel) rfl
theorem wd_113 : Cond.instanceMethod (bb_md 39).1 ∈ bb_TB := bb_tb (i := 783) (by decide +kernel) rfl
theorem wd_114 : Cond.selects (bb_md 39).1.cls (bb_md 39).1 (bb_md 39).1 ∈ bb_TB := bb_tb (i := 35) (by decide +kernel) rfl
theorem mV_39 : bb_mV 39 7 4 := ⟨⟨wd_113, wd_114, wd_1, wd_112⟩, ⟨by decide +kernel, by decide +kernel, by decide +kernel⟩, ⟨by decide +kernel, by decide +kernel⟩, ⟨by decide, by decide, by decide⟩, _, _, rfl⟩
theorem wd_115 : Cond.code (bb_md 40).1 (bb_md 40).2.1 (bb_md 40).2.2.1 (bb_md 40).2.2.2 ∈ bb_TB := bb_tb (i := 775) (by decide +kernel) rfl
theorem wd_116 : Cond.instanceMethod (bb_md 40).1 ∈ bb_TB := bb_tb (i := 774) (by decide +kernel) rfl
theorem wd_117 : Cond.selects (bb_md 40).1.cls (bb_md 40).1 (bb_md 40).1 ∈ bb_TB := bb_tb (i := 33) (by decide +kernel) rfl
theorem mV_40 : bb_mV 40 7 3 := ⟨⟨wd_116, wd_117, wd_1, wd_115⟩, ⟨by decide +kernel, by decide +kernel, by decide +kernel⟩, ⟨by decide +kernel, by decide +kernel⟩, ⟨by decide, by decide, by decide⟩, _, _, rfl⟩
theorem wd_118 : Cond.code (bb_md 41).1 (bb_md 41).2.1 (bb_md 41).2.2.1 (bb_md 41).2.2.2 ∈ bb_TB := bb_tb (i := 767) (by decide +kernel) rfl
theorem wd_119 : Cond.instanceMethod (bb_md 41).1 ∈ bb_TB := bb_tb (i := 766) (by decide +kernel) rfl
theorem wd_120 : Cond.selects (bb_md 41).1.cls (bb_md 41).1 (bb_md 41).1 ∈ bb_TB := bb_tb (i := 31) (by decide +kernel) rfl
theorem mV_41 : bb_mV 41 7 5 := ⟨⟨wd_119, wd_120, wd_1, wd_118⟩, ⟨by decide +kernel, by decide +kernel, by decide +kernel⟩, ⟨by decide +kernel, by decide +kernel⟩, ⟨by decide, by decide, by decide⟩, _, _, rfl⟩
theorem wd_121 : Cond.code (bb_md 42).1 (bb_md 42).2.1 (bb_md 42).2.2.1 (bb_md 42).2.2.2 ∈ bb_TB := bb_tb (i := 755) (by decide +kernel) rfl
theorem wd_122 : Cond.instanceMethod (bb_md 42).1 ∈ bb_TB := bb_tb (i := 754) (by decide +kernel) rfl
theorem wd_123 : Cond.selects (bb_md 42).1.cls (bb_md 42).1 (bb_md 42).1 ∈ bb_TB := bb_tb (i := 28) (by decide +kernel) rfl
theorem mV_42 : bb_mV 42 7 3 := ⟨⟨wd_122, wd_123, wd_1, wd_121⟩, ⟨by decide +kernel, by decide +kernel, by decide +kernel⟩, ⟨by decide +kernel, by decide +kernel⟩, ⟨by decide, by decide, by decide⟩, _, _, rfl⟩
theorem wd_124 : Cond.code (bb_md 43).1 (bb_md 43).2.1 (bb_md 43).2.2.1 (bb_md 43).2.2.2 ∈ bb_TB := bb_tb (i := 751) (by decide +kernel) rfl
theorem wd_125 : Cond.instanceMethod (bb_md 43).1 ∈ bb_TB := bb_tb (i := 750) (by decide +kernel) rfl
theorem wd_126 : Cond.selects (bb_md 43).1.cls (bb_md 43).1 (bb_md 43).1 ∈ bb_TB := bb_tb (i := 27) (by decide +kernel) rfl
theorem mV_43 : bb_mV 43 7 3 := ⟨⟨wd_125, wd_126, wd_1, wd_124⟩, ⟨by decide +kernel, by decide +kernel, by decide +kernel⟩, ⟨by decide +kernel, by decide +kernel⟩, ⟨by decide, by decide, by decide⟩, _, _, rfl⟩
theorem wd_127 : Cond.code (bb_md 44).1 (bb_md 44).2.1 (bb_md 44).2.2.1 (bb_md 44).2.2.2 ∈ bb_TB := bb_tb (i := 747) (by decide +kernel) rfl
theorem wd_128 : Cond.instanceMethod (bb_md 44).1 ∈ bb_TB := bb_tb (i := 746) (by decide +kernel) rfl
theorem wd_129 : Cond.selects (bb_md 44).1.cls (bb_md 44).1 (bb_md 44).1 ∈ bb_TB := bb_tb (i := 26) (by decide +kernel) rfl
theorem mV_44 : bb_mV 44 7 1 := ⟨⟨wd_128, wd_129, wd_1, wd_127⟩, ⟨by decide +kernel, by decide +kernel, by decide +kernel⟩, ⟨by decide +kernel, by decide +kernel⟩, ⟨by decide, by decide, by decide⟩, _, _, rfl⟩
theorem wd_130 : Cond.code (bb_md 45).1 (bb_md 45).2.1 (bb_md 45).2.2.1 (bb_md 45).2.2.2 ∈ bb_TB := bb_tb (i := 743) (by decide +kernel) rfl
theorem wd_131 : Cond.instanceMethod (bb_md 45).1 ∈ bb_TB := bb_tb (i := 742) (by decide +kernel) rfl
theorem wd_132 : Cond.selects (bb_md 45).1.cls (bb_md 45).1 (bb_md 45).1 ∈ bb_TB := bb_tb (i := 25) (by decide +kernel) rfl
theorem mV_45 : bb_mV 45 7 1 := ⟨⟨wd_131, wd_132, wd_1, wd_130⟩, ⟨by decide +kernel, by decide +kernel, by decide +kernel⟩, ⟨by decide +kernel, by decide +kernel⟩, ⟨by decide, by decide, by decide⟩, _, _, rfl⟩
theorem wd_133 : Cond.code (bb_md 46).1 (bb_md 46).2.1 (bb_md 46).2.2.1 (bb_md 46).2.2.2 ∈ bb_TB := bb_tb (i := 771) (by decide +kernel) rfl
theorem wd_134 : Cond.instanceMethod (bb_md 46).1 ∈ bb_TB := bb_tb (i := 770) (by decide +kernel) rfl
theorem wd_135 : Cond.selects (bb_md 46).1.cls (bb_md 46).1 (bb_md 46).1 ∈ bb_TB := bb_tb (i := 32) (by decide +kernel) rfl
theorem mV_46 : bb_mV 46 7 1 := ⟨⟨wd_134, wd_135, wd_1, wd_133⟩, ⟨by decide +kernel, by decide +kernel, by decide +kernel⟩, ⟨by decide +kernel, by decide +kernel⟩, ⟨by decide, by decide, by decide⟩, _, _, rfl⟩
theorem wd_136 : Cond.code (bb_md 47).1 (bb_md 47).2.1 (bb_md 47).2.2.1 (bb_md 47).2.2.2 ∈ bb_TB := bb_tb (i := 788) (by decide +kernel) rfl
theorem wd_137 : Cond.instanceMethod (bb_md 47).1 ∈ bb_TB := bb_tb (i := 787) (by decide +kernel) rfl
theorem wd_138 : Cond.selects (bb_md 47).1.cls (bb_md 47).1 (bb_md 47).1 ∈ bb_TB := bb_tb (i := 36) (by decide +kernel) rfl
theorem mV_47 : bb_mV 47 7 1 := ⟨⟨wd_137, wd_138, wd_1, wd_136⟩, ⟨by decide +kernel, by decide +kernel, by decide +kernel⟩, ⟨by decide +kernel, by decide +kernel⟩, ⟨by decide, by decide, by decide⟩, _, _, rfl⟩
theorem wd_139 : Cond.code (bb_md 48).1 (bb_md 48).2.1 (bb_md 48).2.2.1 (bb_md 48).2.2.2 ∈ bb_TB := bb_tb (i := 676) (by decide +kernel) rfl
theorem wd_140 : Cond.instanceMethod (bb_md 48).1 ∈ bb_TB := bb_tb (i := 674) (by decide +kernel) rfl
theorem wd_141 : Cond.selects (bb_md 48).1.cls (bb_md 48).1 (bb_md 48).1 ∈ bb_TB := bb_tb (i := 675) (by decide +kernel) rfl
theorem mV_48 : bb_mV 48 7 4 := ⟨⟨wd_140, wd_141, wd_1, wd_139⟩, ⟨by decide +kernel, by decide +kernel, by decide +kernel⟩, ⟨by decide +kernel, by decide +kernel⟩, ⟨by decide, by decide, by decide⟩, _, _, rfl⟩
theorem wd_142 : Cond.code (bb_md 49).1 (bb_md 49).2.1 (bb_md 49).2.2.1 (bb_md 49).2.2.2 ∈ bb_TB := bb_tb (i := 710) (by decide +kernel) rfl
theorem wd_143 : Cond.instanceMethod (bb_md 49).1 ∈ bb_TB := bb_tb (i := 709) (by decide +kernel) rfl
theorem wd_144 : Cond.selects (bb_md 49).1.cls (bb_md 49).1 (bb_md 49).1 ∈ bb_TB := bb_tb (i := 23) (by decide +kernel) rfl
theorem mV_49 : bb_mV 49 7 3 := ⟨⟨wd_143, wd_144, wd_1, wd_142⟩, ⟨by decide +kernel, by decide +kernel, by decide +kernel⟩, ⟨by decide +kernel, by decide +kernel⟩, ⟨by decide, by decide, by decide⟩, _, _, rfl⟩
theorem wd_145 : Cond.code (bb_md 50).1 (bb_md 50).2.1 (bb_md 50).2.2.1 (bb_md 50).2.2.2 ∈ bb_TB := bb_tb (i := 704) (by decide +kernel) rfl
theorem wd_146 : Cond.instanceMethod (bb_md 50).1 ∈ bb_TB := bb_tb (i := 702) (by decide +kernel) rfl
theorem wd_147 : Cond.selects (bb_md 50).1.cls (bb_md 50).1 (bb_md 50).1 ∈ bb_TB := bb_tb (i := 703) (by decide +kernel) rfl
theorem mV_50 : bb_mV 50 7 2 := ⟨⟨wd_146, wd_147, wd_1, wd_145⟩, ⟨by decide +kernel, by decide +kernel, by decide +kernel⟩, ⟨by decide +kernel, by decide +kernel⟩, ⟨by decide, by decide, by decide⟩, _, _, rfl⟩
theorem wd_148 : Cond.code (bb_md 51).1 (bb_md 51).2.1 (bb_md 51).2.2.1 (bb_md 51).2.2.2 ∈ bb_TB := bb_tb (i := 717) (by decide +kernel) rfl
theorem wd_149 : Cond.static (bb_md 51).1 ∈ bb_TB := bb_tb (i := 716) (by decide +kernel) rfl
theorem mS_51 : bb_mS 51 2 := ⟨⟨wd_149, wd_1, wd_148⟩, ⟨by decide +kernel, by decide +kernel, by decide +kernel⟩, by decide +kernel, fun _ => by decide +kernel⟩
theorem wd_150 : Cond.code (bb_md 52).1 (bb_md 52).2.1 (bb_md 52).2.2.1 (bb_md 52).2.2.2 ∈ bb_TB := bb_tb (i := 714) (by decide +kernel) rfl
theorem wd_151 : Cond.instanceMethod (bb_md 52).1 ∈ bb_TB := bb_tb (i := 712) (by decide +kernel) rfl
theorem wd_152 : Cond.selects (bb_md 52).1.cls (bb_md 52).1 (bb_md 52).1 ∈ bb_TB := bb_tb (i := 713) (by decide +kernel) rfl
theorem mV_52 : bb_mV 52 7 3 := ⟨⟨wd_151, wd_152, wd_1, wd_150⟩, ⟨by decide +kernel, by decide +kernel, by decide +kernel⟩, ⟨by decide +kernel, by decide +kernel⟩, ⟨by decide, by decide, by decide⟩, _, _, rfl⟩
theorem wd_153 : Cond.code (bb_md 53).1 (bb_md 53).2.1 (bb_md 53).2.2.1 (bb_md 53).2.2.2 ∈ bb_TB := bb_tb (i := 727) (by decide +kernel) rfl
theorem wd_154 : Cond.static (bb_md 53).1 ∈ bb_TB := bb_tb (i := 726) (by decide +kernel) rfl
theorem mS_53 : bb_mS 53 1 := ⟨⟨wd_154, wd_1, wd_153⟩, ⟨by decide +kernel, by decide +kernel, by decide +kernel⟩, by decide +kernel, fun _ => by decide +kernel⟩
theorem wd_155 : Cond.code (bb_md 54).1 (bb_md 54).2.1 (bb_md 54).2.2.1 (bb_md 54).2.2.2 ∈ bb_TB := bb_tb (i := 731) (by decide +kernel) rfl
theorem wd_156 : Cond.instanceMethod (bb_md 54).1 ∈ bb_TB := bb_tb (i := 730) (by decide +kernel) rfl
theorem wd_157 : Cond.selects (bb_md 54).1.cls (bb_md 54).1 (bb_md 54).1 ∈ bb_TB := bb_tb (i := 24) (by decide +kernel) rfl
theorem mV_54 : bb_mV 54 7 3 := ⟨⟨wd_156, wd_157, wd_1, wd_155⟩, ⟨by decide +kernel, by decide +kernel, by decide +kernel⟩, ⟨by decide +kernel, by decide +kernel⟩, ⟨by decide, by decide, by decide⟩, _, _, rfl⟩
theorem wd_158 : Cond.code (bb_md 55).1 (bb_md 55).2.1 (bb_md 55).2.2.1 (bb_md 55).2.2.2 ∈ bb_TB := bb_tb (i := 724) (by decide +kernel) rfl
theorem wd_159 : Cond.instanceMethod (bb_md 55).1 ∈ bb_TB := bb_tb (i := 722) (by decide +kernel) rfl
theorem wd_160 : Cond.selects (bb_md 55).1.cls (bb_md 55).1 (bb_md 55).1 ∈ bb_TB := bb_tb (i := 723) (by decide +kernel) rfl
theorem mV_55 : bb_mV 55 7 3 := ⟨⟨wd_159, wd_160, wd_1, wd_158⟩, ⟨by decide +kernel, by decide +kernel, by decide +kernel⟩, ⟨by decide +kernel, by decide +kernel⟩, ⟨by decide, by decide, by decide⟩, _, _, rfl⟩
theorem wd_161 : Cond.code (bb_md 56).1 (bb_md 56).2.1 (bb_md 56).2.2.1 (bb_md 56).2.2.2 ∈ bb_TB := bb_tb (i := 735) (by decide +kernel) rfl
theorem wd_162 : Cond.instanceMethod (bb_md 56).1 ∈ bb_TB := bb_tb (i := 733) (by decide +kernel) rfl
theorem wd_163 : Cond.selects (bb_md 56).1.cls (bb_md 56).1 (bb_md 56).1 ∈ bb_TB := bb_tb (i := 734) (by decide +kernel) rfl
theorem mV_56 : bb_mV 56 7 3 := ⟨⟨wd_162, wd_163, wd_1, wd_161⟩, ⟨by decide +kernel, by decide +kernel, by decide +kernel⟩, ⟨by decide +kernel, by decide +kernel⟩, ⟨by decide, by decide, by decide⟩, _, _, rfl⟩
theorem wd_164 : Cond.code (bb_md 57).1 (bb_md 57).2.1 (bb_md 57).2.2.1 (bb_md 57).2.2.2 ∈ bb_TB := bb_tb (i := 739) (by decide +kernel) rfl
theorem wd_165 : Cond.instanceMethod (bb_md 57).1 ∈ bb_TB := bb_tb (i := 737) (by decide +kernel) rfl
theorem wd_166 : Cond.selects (bb_md 57).1.cls (bb_md 57).1 (bb_md 57).1 ∈ bb_TB := bb_tb (i := 738) (by decide +kernel) rfl
theorem mV_57 : bb_mV 57 7 2 := ⟨⟨wd_165, wd_166, wd_1, wd_164⟩, ⟨by decide +kernel, by decide +kernel, by decide +kernel⟩, ⟨by decide +kernel, by decide +kernel⟩, ⟨by decide, by decide, by decide⟩, _, _, rfl⟩
theorem wd_167 : Cond.code (bb_md 58).1 (bb_md 58).2.1 (bb_md 58).2.2.1 (bb_md 58).2.2.2 ∈ bb_TB := bb_tb (i := 792) (by decide +kernel) rfl
theorem wd_168 : Cond.instanceMethod (bb_md 58).1 ∈ bb_TB := bb_tb (i := 790) (by decide +kernel) rfl
theorem wd_169 : Cond.selects (bb_md 58).1.cls (bb_md 58).1 (bb_md 58).1 ∈ bb_TB := bb_tb (i := 791) (by decide +kernel) rfl
theorem mV_58 : bb_mV 58 7 1 := ⟨⟨wd_168, wd_169, wd_1, wd_167⟩, ⟨by decide +kernel, by decide +kernel, by decide +kernel⟩, ⟨by decide +kernel, by decide +kernel⟩, ⟨by decide, by decide, by decide⟩, _, _, rfl⟩
theorem wd_170 : Cond.code (bb_md 59).1 (bb_md 59).2.1 (bb_md 59).2.2.1 (bb_md 59).2.2.2 ∈ bb_TB := bb_tb (i := 796) (by decide +kernel) rfl
theorem wd_171 : Cond.instanceMethod (bb_md 59).1 ∈ bb_TB := bb_tb (i := 794) (by decide +kernel) rfl
theorem wd_172 : Cond.selects (bb_md 59).1.cls (bb_md 59).1 (bb_md 59).1 ∈ bb_TB := bb_tb (i := 795) (by decide +kernel) rfl
theorem mV_59 : bb_mV 59 7 2 := ⟨⟨wd_171, wd_172, wd_1, wd_170⟩, ⟨by decide +kernel, by decide +kernel, by decide +kernel⟩, ⟨by decide +kernel, by decide +kernel⟩, ⟨by decide, by decide, by decide⟩, _, _, rfl⟩
theorem wd_173 : Cond.code (bb_md 60).1 (bb_md 60).2.1 (bb_md 60).2.2.1 (bb_md 60).2.2.2 ∈ bb_TB := bb_tb (i := 800) (by decide +kernel) rfl
theorem wd_174 : Cond.instanceMethod (bb_md 60).1 ∈ bb_TB := bb_tb (i := 798) (by decide +kernel) rfl
theorem wd_175 : Cond.selects (bb_md 60).1.cls (bb_md 60).1 (bb_md 60).1 ∈ bb_TB := bb_tb (i := 799) (by decide +kernel) rfl
theorem mV_60 : bb_mV 60 7 1 := ⟨⟨wd_174, wd_175, wd_1, wd_173⟩, ⟨by decide +kernel, by decide +kernel, by decide +kernel⟩, ⟨by decide +kernel, by decide +kernel⟩, ⟨by decide, by decide, by decide⟩, _, _, rfl⟩
theorem wd_176 : Cond.code (bb_md 61).1 (bb_md 61).2.1 (bb_md 61).2.2.1 (bb_md 61).2.2.2 ∈ bb_TB := bb_tb (i := 820) (by decide +kernel) rfl
theorem wd_177 : Cond.instanceMethod (bb_md 61).1 ∈ bb_TB := bb_tb (i := 819) (by decide +kernel) rfl
theorem wd_178 : Cond.selects (bb_md 61).1.cls (bb_md 61).1 (bb_md 61).1 ∈ bb_TB := bb_tb (i := 40) (by decide +kernel) rfl
theorem mV_61 : bb_mV 61 7 3 := ⟨⟨wd_177, wd_178, wd_1, wd_176⟩, ⟨by decide +kernel, by decide +kernel, by decide +kernel⟩, ⟨by decide +kernel, by decide +kernel⟩, ⟨by decide, by decide, by decide⟩, _, _, rfl⟩
theorem wd_179 : Cond.code (bb_md 62).1 (bb_md 62).2.1 (bb_md 62).2.2.1 (bb_md 62).2.2.2 ∈ bb_TB := bb_tb (i := 824) (by decide +kernel) rfl
theorem wd_180 : Cond.instanceMethod (bb_md 62).1 ∈ bb_TB := bb_tb (i := 823) (by decide +kernel) rfl
theorem wd_181 : Cond.selects (bb_md 62).1.cls (bb_md 62).1 (bb_md 62).1 ∈ bb_TB := bb_tb (i := 41) (by decide +kernel) rfl
theorem mV_62 : bb_mV 62 7 2 := ⟨⟨wd_180, wd_181, wd_1, wd_179⟩, ⟨by decide +kernel, by decide +kernel, by decide +kernel⟩, ⟨by decide +kernel, by decide +kernel⟩, ⟨by decide, by decide, by decide⟩, _, _, rfl⟩
theorem wd_182 : Cond.code (bb_md 63).1 (bb_md 63).2.1 (bb_md 63).2.2.1 (bb_md 63).2.2.2 ∈ bb_TB := bb_tb (i := 816) (by decide +kernel) rfl
theorem wd_183 : Cond.instanceMethod (bb_md 63).1 ∈ bb_TB := bb_tb (i := 815) (by decide +kernel) rfl
theorem wd_184 : Cond.selects (bb_md 63).1.cls (bb_md 63).1 (bb_md 63).1 ∈ bb_TB := bb_tb (i := 39) (by decide +kernel) rfl
theorem mV_63 : bb_mV 63 7 4 := ⟨⟨wd_183, wd_184, wd_1, wd_182⟩, ⟨by decide +kernel, by decide +kernel, by decide +kernel⟩, ⟨by decide +kernel, by decide +kernel⟩, ⟨by decide, by decide, by decide⟩, _, _, rfl⟩
theorem wd_185 : Cond.code (bb_md 64).1 (bb_md 64).2.1 (bb_md 64).2.2.1 (bb_md 64).2.2.2 ∈ bb_TB := bb_tb (i := 812) (by decide +kernel) rfl
theorem wd_186 : Cond.instanceMethod (bb_md 64).1 ∈ bb_TB := bb_tb (i := 811) (by decide +kernel) rfl
theorem wd_187 : Cond.selects (bb_md 64).1.cls (bb_md 64).1 (bb_md 64).1 ∈ bb_TB := bb_tb (i := 38) (by decide +kernel) rfl
theorem mV_64 : bb_mV 64 7 1 := ⟨⟨wd_186, wd_187, wd_1, wd_185⟩, ⟨by decide +kernel, by decide +kernel, by decide +kernel⟩, ⟨by decide +kernel, by decide +kernel⟩, ⟨by decide, by decide, by decide⟩, _, _, rfl⟩
theorem wd_188 : Cond.code (bb_md 65).1 (bb_md 65).2.1 (bb_md 65).2.2.1 (bb_md 65).2.2.2 ∈ bb_TB := bb_tb (i := 808) (by decide +kernel) rfl
theorem wd_189 : Cond.instanceMethod (bb_md 65).1 ∈ bb_TB := bb_tb (i := 807) (by decide +kernel) rfl
theorem wd_190 : Cond.selects (bb_md 65).1.cls (bb_md 65).1 (bb_md 65).1 ∈ bb_TB := bb_tb (i := 37) (by decide +kernel) rfl
theorem mV_65 : bb_mV 65 7 1 := ⟨⟨wd_189, wd_190, wd_1, wd_188⟩, ⟨by decide +kernel, by decide +kernel, by decide +kernel⟩, ⟨by decide +kernel, by decide +kernel⟩, ⟨by decide, by decide, by decide⟩, _, _, rfl⟩
theorem wd_191 : Cond.code (bb_md 66).1 (bb_md 66).2.1 (bb_md 66).2.2.1 (bb_md 66).2.2.2 ∈ bb_TB := bb_tb (i := 804) (by decide +kernel) rfl
theorem wd_192 : Cond.instanceMethod (bb_md 66).1 ∈ bb_TB := bb_tb (i := 802) (by decide +kernel) rfl
theorem wd_193 : Cond.selects (bb_md 66).1.cls (bb_md 66).1 (bb_md 66).1 ∈ bb_TB := bb_tb (i := 803) (by decide +kernel) rfl
theorem mV_66 : bb_mV 66 7 1 := ⟨⟨wd_192, wd_193, wd_1, wd_191⟩, ⟨by decide +kernel, by decide +kernel, by decide +kernel⟩, ⟨by decide +kernel, by decide +kernel⟩, ⟨by decide, by decide, by decide⟩, _, _, rfl⟩
theorem wd_194 : Cond.code (bb_md 67).1 (bb_md 67).2.1 (bb_md 67).2.2.1 (bb_md 67).2.2.2 ∈ bb_TB := bb_tb (i := 828) (by decide +kernel) rfl
theorem wd_195 : Cond.instanceMethod (bb_md 67).1 ∈ bb_TB := bb_tb (i := 826) (by decide +kernel) rfl
theorem wd_196 : Cond.selects (bb_md 67).1.cls (bb_md 67).1 (bb_md 67).1 ∈ bb_TB := bb_tb (i := 827) (by decide +kernel) rfl
theorem mV_67 : bb_mV 67 7 1 := ⟨⟨wd_195, wd_196, wd_1, wd_194⟩, ⟨by decide +kernel, by decide +kernel, by decide +kernel⟩, ⟨by decide +kernel, by decide +kernel⟩, ⟨by decide, by decide, by decide⟩, _, _, rfl⟩
theorem wd_197 : Cond.code (bb_md 68).1 (bb_md 68).2.1 (bb_md 68).2.2.1 (bb_md 68).2.2.2 ∈ bb_TB := bb_tb (i := 836) (by decide +kernel) rfl
theorem wd_198 : Cond.instanceMethod (bb_md 68).1 ∈ bb_TB := bb_tb (i := 835) (by decide +kernel) rfl
theorem wd_199 : Cond.selects (bb_md 68).1.cls (bb_md 68).1 (bb_md 68).1 ∈ bb_TB := bb_tb (i := 42) (by decide +kernel) rfl
theorem mV_68 : bb_mV 68 7 3 := ⟨⟨wd_198, wd_199, wd_1, wd_197⟩, ⟨by decide +kernel, by decide +kernel, by decide +kernel⟩, ⟨by decide +kernel, by decide +kernel⟩, ⟨by decide, by decide, by decide⟩, _, _, rfl⟩
theorem wd_200 : Cond.code (bb_md 69).1 (bb_md 69).2.1 (bb_md 69).2.2.1 (bb_md 69).2.2.2 ∈ bb_TB := bb_tb (i := 832) (by decide +kernel) rfl
theorem wd_201 : Cond.instanceMethod (bb_md 69).1 ∈ bb_TB := bb_tb (i := 830) (by decide +kernel) rfl
theorem wd_202 : Cond.selects (bb_md 69).1.cls (bb_md 69).1 (bb_md 69).1 ∈ bb_TB := bb_tb (i := 831) (by decide +kernel) rfl
theorem mV_69 : bb_mV 69 7 1 := ⟨⟨wd_201, wd_202, wd_1, wd_200⟩, ⟨by decide +kernel, by decide +kernel, by decide +kernel⟩, ⟨by decide +kernel, by decide +kernel⟩, ⟨by decide, by decide, by decide⟩, _, _, rfl⟩
theorem wd_203 : Cond.code (bb_md 70).1 (bb_md 70).2.1 (bb_md 70).2.2.1 (bb_md 70).2.2.2 ∈ bb_TB := bb_tb (i := 840) (by decide +kernel) rfl
theorem wd_204 : Cond.instanceMethod (bb_md 70).1 ∈ bb_TB := bb_tb (i := 838) (by decide +kernel) rfl
theorem wd_205 : Cond.selects (bb_md 70).1.cls (bb_md 70).1 (bb_md 70).1 ∈ bb_TB := bb_tb (i := 839) (by decide +kernel) rfl
theorem mV_70 : bb_mV 70 7 1 := ⟨⟨wd_204, wd_205, wd_1, wd_203⟩, ⟨by decide +kernel, by decide +kernel, by decide +kernel⟩, ⟨by decide +kernel, by decide +kernel⟩, ⟨by decide, by decide, by decide⟩, _, _, rfl⟩
theorem wd_206 : Cond.code (bb_md 71).1 (bb_md 71).2.1 (bb_md 71).2.2.1 (bb_md 71).2.2.2 ∈ bb_TB := bb_tb (i := 844) (by decide +kernel) rfl
theorem wd_207 : Cond.instanceMethod (bb_md 71).1 ∈ bb_TB := bb_tb (i := 842) (by decide +kernel) rfl
theorem wd_208 : Cond.selects (bb_md 71).1.cls (bb_md 71).1 (bb_md 71).1 ∈ bb_TB := bb_tb (i := 843) (by decide +kernel) rfl
theorem mV_71 : bb_mV 71 7 4 := ⟨⟨wd_207, wd_208, wd_1, wd_206⟩, ⟨by decide +kernel, by decide +kernel, by decide +kernel⟩, ⟨by decide +kernel, by decide +kernel⟩, ⟨by decide, by decide, by decide⟩, _, _, rfl⟩
theorem wd_209 : Cond.code (bb_md 72).1 (bb_md 72).2.1 (bb_md 72).2.2.1 (bb_md 72).2.2.2 ∈ bb_TB := bb_tb (i := 852) (by decide +kernel) rfl
theorem wd_210 : Cond.instanceMethod (bb_md 72).1 ∈ bb_TB := bb_tb (i := 851) (by decide +kernel) rfl
theorem wd_211 : Cond.selects (bb_md 72).1.cls (bb_md 72).1 (bb_md 72).1 ∈ bb_TB := bb_tb (i := 43) (by decide +kernel) rfl
theorem mV_72 : bb_mV 72 7 2 := ⟨⟨wd_210, wd_211, wd_1, wd_209⟩, ⟨by decide +kernel, by decide +kernel, by decide +kernel⟩, ⟨by decide +kernel, by decide +kernel⟩, ⟨by decide, by decide, by decide⟩, _, _, rfl⟩
theorem wd_212 : Cond.code (bb_md 73).1 (bb_md 73).2.1 (bb_md 73).2.2.1 (bb_md 73).2.2.2 ∈ bb_TB := bb_tb (i := 856) (by decide +kernel) rfl
theorem wd_213 : Cond.instanceMethod (bb_md 73).1 ∈ bb_TB := bb_tb (i := 855) (by decide +kernel) rfl
theorem wd_214 : Cond.selects (bb_md 73).1.cls (bb_md 73).1 (bb_md 73).1 ∈ bb_TB := bb_tb (i := 44) (by decide +kernel) rfl
theorem mV_73 : bb_mV 73 7 3 := ⟨⟨wd_213, wd_214, wd_1, wd_212⟩, ⟨by decide +kernel, by decide +kernel, by decide +kernel⟩, ⟨by decide +kernel, by decide +kernel⟩, ⟨by decide, by decide, by decide⟩, _, _, rfl⟩
theorem wd_215 : Cond.code (bb_md 74).1 (bb_md 74).2.1 (bb_md 74).2.2.1 (bb_md 74).2.2.2 ∈ bb_TB := bb_tb (i := 859) (by decide +kernel) rfl
theorem wd_216 : Cond.static (bb_md 74).1 ∈ bb_TB := bb_tb (i := 858) (by decide +kernel) rfl
theorem mS_74 : bb_mS 74 1 := ⟨⟨wd_216, wd_1, wd_215⟩, ⟨by decide +kernel, by decide +kernel, by decide +kernel⟩, by decide +kernel, fun _ => by decide +kernel⟩
theorem wd_217 : Cond.code (bb_md 75).1 (bb_md 75).2.1 (bb_md 75).2.2.1 (bb_md 75).2.2.2 ∈ bb_TB := bb_tb (i := 863) (by decide +kernel) rfl
theorem wd_218 : Cond.instanceMethod (bb_md 75).1 ∈ bb_TB := bb_tb (i := 862) (by decide +kernel) rfl
theorem wd_219 : Cond.selects (bb_md 75).1.cls (bb_md 75).1 (bb_md 75).1 ∈ bb_TB := bb_tb (i := 45) (by decide +kernel) rfl
theorem mV_75 : bb_mV 75 7 2 := ⟨⟨wd_218, wd_219, wd_1, wd_217⟩, ⟨by decide +kernel, by decide +kernel, by decide +kernel⟩, ⟨by decide +kernel, by decide +kernel⟩, ⟨by decide, by decide, by decide⟩, _, _, rfl⟩
theorem wd_220 : Cond.code (bb_md 76).1 (bb_md 76).2.1 (bb_md 76).2.2.1 (bb_md 76).2.2.2 ∈ bb_TB := bb_tb (i := 867) (by decide +kernel) rfl
theorem wd_221 : Cond.instanceMethod (bb_md 76).1 ∈ bb_TB := bb_tb (i := 866) (by decide +kernel) rfl
theorem wd_222 : Cond.selects (bb_md 76).1.cls (bb_md 76).1 (bb_md 76).1 ∈ bb_TB := bb_tb (i := 46) (by decide +kernel) rfl
theorem mV_76 : bb_mV 76 7 2 := ⟨⟨wd_221, wd_222, wd_1, wd_220⟩, ⟨by decide +kernel, by decide +kernel, by decide +kernel⟩, ⟨by decide +kernel, by decide +kernel⟩, ⟨by decide, by decide, by decide⟩, _, _, rfl⟩
theorem wd_223 : Cond.code (bb_md 77).1 (bb_md 77).2.1 (bb_md 77).2.2.1 (bb_md 77).2.2.2 ∈ bb_TB := bb_tb (i := 871) (by decide +kernel) rfl
theorem wd_224 : Cond.instanceMethod (bb_md 77).1 ∈ bb_TB := bb_tb (i := 870) (by decide +kernel) rfl
theorem wd_225 : Cond.selects (bb_md 77).1.cls (bb_md 77).1 (bb_md 77).1 ∈ bb_TB := bb_tb (i := 47) (by decide +kernel) rfl
theorem mV_77 : bb_mV 77 7 2 := ⟨⟨wd_224, wd_225, wd_1, wd_223⟩, ⟨by decide +kernel, by decide +kernel, by decide +kernel⟩, ⟨by decide +kernel, by decide +kernel⟩, ⟨by decide, by decide, by decide⟩, _, _, rfl⟩
theorem wd_226 : Cond.code (bb_md 78).1 (bb_md 78).2.1 (bb_md 78).2.2.1 (bb_md 78).2.2.2 ∈ bb_TB := bb_tb (i := 848) (by decide +kernel) rfl
theorem wd_227 : Cond.instanceMethod (bb_md 78).1 ∈ bb_TB := bb_tb (i := 846) (by decide +kernel) rfl
theorem wd_228 : Cond.selects (bb_md 78).1.cls (bb_md 78).1 (bb_md 78).1 ∈ bb_TB := bb_tb (i := 847) (by decide +kernel) rfl
theorem mV_78 : bb_mV 78 7 3 := ⟨⟨wd_227, wd_228, wd_1, wd_226⟩, ⟨by decide +kernel, by decide +kernel, by decide +kernel⟩, ⟨by decide +kernel, by decide +kernel⟩, ⟨by decide, by decide, by decide⟩, _, _, rfl⟩
theorem wd_229 : Cond.code (bb_md 79).1 (bb_md 79).2.1 (bb_md 79).2.2.1 (bb_md 79).2.2.2 ∈ bb_TB := bb_tb (i := 875) (by decide +kernel) rfl
theorem wd_230 : Cond.instanceMethod (bb_md 79).1 ∈ bb_TB := bb_tb (i := 873) (by decide +kernel) rfl
theorem wd_231 : Cond.selects (bb_md 79).1.cls (bb_md 79).1 (bb_md 79).1 ∈ bb_TB := bb_tb (i := 874) (by decide +kernel) rfl
theorem mV_79 : bb_mV 79 7 3 := ⟨⟨wd_230, wd_231, wd_1, wd_229⟩, ⟨by decide +kernel, by decide +kernel, by decide +kernel⟩, ⟨by decide +kernel, by decide +kernel⟩, ⟨by decide, by decide, by decide⟩, _, _, rfl⟩
theorem wd_232 : Cond.code (bb_md 80).1 (bb_md 80).2.1 (bb_md 80).2.2.1 (bb_md 80).2.2.2 ∈ bb_TB := bb_tb (i := 879) (by decide +kernel) rfl
theorem wd_233 : Cond.instanceMethod (bb_md 80).1 ∈ bb_TB := bb_tb (i := 877) (by decide +kernel) rfl
theorem wd_234 : Cond.selects (bb_md 80).1.cls (bb_md 80).1 (bb_md 80).1 ∈ bb_TB := bb_tb (i := 878) (by decide +kernel) rfl
theorem mV_80 : bb_mV 80 7 3 := ⟨⟨wd_233, wd_234, wd_1, wd_232⟩, ⟨by decide +kernel, by decide +kernel, by decide +kernel⟩, ⟨by decide +kernel, by decide +kernel⟩, ⟨by decide, by decide, by decide⟩, _, _, rfl⟩
theorem wd_235 : Cond.code (bb_md 81).1 (bb_md 81).2.1 (bb_md 81).2.2.1 (bb_md 81).2.2.2 ∈ bb_TB := bb_tb (i := 884) (by decide +kernel) rfl
theorem wd_236 : Cond.instanceMethod (bb_md 81).1 ∈ bb_TB := bb_tb (i := 882) (by decide +kernel) rfl
theorem wd_237 : Cond.selects (bb_md 81).1.cls (bb_md 81).1 (bb_md 81).1 ∈ bb_TB := bb_tb (i := 883) (by decide +kernel) rfl
theorem mV_81 : bb_mV 81 7 4 := ⟨⟨wd_236, wd_237, wd_1, wd_235⟩, ⟨by decide +kernel, by decide +kernel, by decide +kernel⟩, ⟨by decide +kernel, by decide +kernel⟩, ⟨by decide, by decide, by decide⟩, _, _, rfl⟩
theorem wd_238 : Cond.code (bb_md 82).1 (bb_md 82).2.1 (bb_md 82).2.2.1 (bb_md 82).2.2.2 ∈ bb_TB := bb_tb (i := 888) (by decide +kernel) rfl
theorem wd_239 : Cond.instanceMethod (bb_md 82).1 ∈ bb_TB := bb_tb (i := 886) (by decide +kernel) rfl
theorem wd_240 : Cond.selects (bb_md 82).1.cls (bb_md 82).1 (bb_md 82).1 ∈ bb_TB := bb_tb (i := 887) (by decide +kernel) rfl
theorem mV_82 : bb_mV 82 7 3 := ⟨⟨wd_239, wd_240, wd_1, wd_238⟩, ⟨by decide +kernel, by decide +kernel, by decide +kernel⟩, ⟨by decide +kernel, by decide +kernel⟩, ⟨by decide, by decide, by decide⟩, _, _, rfl⟩
theorem wd_241 : Cond.code (bb_md 83).1 (bb_md 83).2.1 (bb_md 83).2.2.1 (bb_md 83).2.2.2 ∈ bb_TB := bb_tb (i := 899) (by decide +kernel) rfl
theorem wd_242 : Cond.instanceMethod (bb_md 83).1 ∈ bb_TB := bb_tb (i := 898) (by decide +kernel) rfl
theorem wd_243 : Cond.selects (bb_md 83).1.cls (bb_md 83).1 (bb_md 83).1 ∈ bb_TB := bb_tb (i := 48) (by decide +kernel) rfl
theorem mV_83 : bb_mV 83 7 2 := ⟨⟨wd_242, wd_243, wd_1, wd_241⟩, ⟨by decide +kernel, by decide +kernel, by decide +kernel⟩, ⟨by decide +kernel, by decide +kernel⟩, ⟨by decide, by decide, by decide⟩, _, _, rfl⟩
theorem wd_244 : Cond.code (bb_md 84).1 (bb_md 84).2.1 (bb_md 84).2.2.1 (bb_md 84).2.2.2 ∈ bb_TB := bb_tb (i := 903) (by decide +kernel) rfl
theorem wd_245 : Cond.instanceMethod (bb_md 84).1 ∈ bb_TB := bb_tb (i := 902) (by decide +kernel) rfl
theorem wd_246 : Cond.selects (bb_md 84).1.cls (bb_md 84).1 (bb_md 84).1 ∈ bb_TB := bb_tb (i := 49) (by decide +kernel) rfl
theorem mV_84 : bb_mV 84 7 1 := ⟨⟨wd_245, wd_246, wd_1, wd_244⟩, ⟨by decide +kernel, by decide +kernel, by decide +kernel⟩, ⟨by decide +kernel, by decide +kernel⟩, ⟨by decide, by decide, by decide⟩, _, _, rfl⟩
theorem wd_247 : Cond.code (bb_md 85).1 (bb_md 85).2.1 (bb_md 85).2.2.1 (bb_md 85).2.2.2 ∈ bb_TB := bb_tb (i := 892) (by decide +kernel) rfl
theorem wd_248 : Cond.instanceMethod (bb_md 85).1 ∈ bb_TB := bb_tb (i := 890) (by decide +kernel) rfl
theorem wd_249 : Cond.selects (bb_md 85).1.cls (bb_md 85).1 (bb_md 85).1 ∈ bb_TB := bb_tb (i := 891) (by decide +kernel) rfl
theorem mV_85 : bb_mV 85 7 2 := ⟨⟨wd_248, wd_249, wd_1, wd_247⟩, ⟨by decide +kernel, by decide +kernel, by decide +kernel⟩, ⟨by decide +kernel, by decide +kernel⟩, ⟨by decide, by decide, by decide⟩, _, _, rfl⟩
theorem wd_250 : Cond.code (bb_md 86).1 (bb_md 86).2.1 (bb_md 86).2.2.1 (bb_md 86).2.2.2 ∈ bb_TB := bb_tb (i := 517) (by decide +kernel) rfl
theorem wd_251 : Cond.initialized RX0 ∈ bb_TB := bb_tb (i := 56) (by decide +kernel) rfl
theorem wd_252 : Cond.instanceMethod (bb_md 86).1 ∈ bb_TB := bb_tb (i := 515) (by decide +kernel) rfl
theorem wd_253 : Cond.selects (bb_md 86).1.cls (bb_md 86).1 (bb_md 86).1 ∈ bb_TB := bb_tb (i := 516) (by decide +kernel) rfl
theorem mV_86 : bb_mV 86 0 1 := ⟨⟨wd_252, wd_253, wd_251, wd_250⟩, ⟨by decide +kernel, by decide +kernel, by decide +kernel⟩, ⟨by decide +kernel, by decide +kernel⟩, ⟨by decide, by decide, by decide⟩, _, _, rfl⟩
theorem wd_254 : Cond.code (bb_md 87).1 (bb_md 87).2.1 (bb_md 87).2.2.1 (bb_md 87).2.2.2 ∈ bb_TB := bb_tb (i := 259) (by decide +kernel) rfl
theorem wd_255 : Cond.instanceMethod (bb_md 87).1 ∈ bb_TB := bb_tb (i := 257) (by decide +kernel) rfl
theorem wd_256 : Cond.selects (bb_md 87).1.cls (bb_md 87).1 (bb_md 87).1 ∈ bb_TB := bb_tb (i := 258) (by decide +kernel) rfl
theorem mV_87 : bb_mV 87 0 2 := ⟨⟨wd_255, wd_256, wd_251, wd_254⟩, ⟨by decide +kernel, by decide +kernel, by decide +kernel⟩, ⟨by decide +kernel, by decide +kernel⟩, ⟨by decide, by decide, by decide⟩, _, _, rfl⟩
theorem wd_257 : Cond.code (bb_md 88).1 (bb_md 88).2.1 (bb_md 88).2.2.1 (bb_md 88).2.2.2 ∈ bb_TB := bb_tb (i := 521) (by decide +kernel) rfl
theorem wd_258 : Cond.instanceMethod (bb_md 88).1 ∈ bb_TB := bb_tb (i := 519) (by decide +kernel) rfl
theorem wd_259 : Cond.selects (bb_md 88).1.cls (bb_md 88).1 (bb_md 88).1 ∈ bb_TB := bb_tb (i := 520) (by decide +kernel) rfl
theorem mV_88 : bb_mV 88 0 2 := ⟨⟨wd_258, wd_259, wd_251, wd_257⟩, ⟨by decide +kernel, by decide +kernel, by decide +kernel⟩, ⟨by decide +kernel, by decide +kernel⟩, ⟨by decide, by decide, by decide⟩, _, _, rfl⟩
theorem wd_260 : Cond.code (bb_md 89).1 (bb_md 89).2.1 (bb_md 89).2.2.1 (bb_md 89).2.2.2 ∈ bb_TB := bb_tb (i := 272) (by decide +kernel) rfl
theorem wd_261 : Cond.initialized RX1 ∈ bb_TB := bb_tb (i := 54) (by decide +kernel) rfl
theorem wd_262 : Cond.instanceMethod (bb_md 89).1 ∈ bb_TB := bb_tb (i := 270) (by decide +kernel) rfl
theorem wd_263 : Cond.selects (bb_md 89).1.cls (bb_md 89).1 (bb_md 89).1 ∈ bb_TB := bb_tb (i := 271) (by decide +kernel) rfl
theorem mV_89 : bb_mV 89 1 2 := ⟨⟨wd_262, wd_263, wd_261, wd_260⟩, ⟨by decide +kernel, by decide +kernel, by decide +kernel⟩, ⟨by decide +kernel, by decide +kernel⟩, ⟨by decide, by decide, by decide⟩, _, _, rfl⟩
theorem wd_264 : Cond.code (bb_md 90).1 (bb_md 90).2.1 (bb_md 90).2.2.1 (bb_md 90).2.2.2 ∈ bb_TB := bb_tb (i := 303) (by decide +kernel) rfl
theorem wd_265 : Cond.instanceMethod (bb_md 90).1 ∈ bb_TB := bb_tb (i := 301) (by decide +kernel) rfl
theorem wd_266 : Cond.selects (bb_md 90).1.cls (bb_md 90).1 (bb_md 90).1 ∈ bb_TB := bb_tb (i := 302) (by decide +kernel) rfl
theorem mV_90 : bb_mV 90 1 1 := ⟨⟨wd_265, wd_266, wd_261, wd_264⟩, ⟨by decide +kernel, by decide +kernel, by decide +kernel⟩, ⟨by decide +kernel, by decide +kernel⟩, ⟨by decide, by decide, by decide⟩, _, _, rfl⟩
theorem wd_267 : Cond.code (bb_md 91).1 (bb_md 91).2.1 (bb_md 91).2.2.1 (bb_md 91).2.2.2 ∈ bb_TB := bb_tb (i := 397) (by decide +kernel) rfl
theorem wd_268 : Cond.instanceMethod (bb_md 91).1 ∈ bb_TB := bb_tb (i := 395) (by decide +kernel) rfl
theorem wd_269 : Cond.selects (bb_md 91).1.cls (bb_md 91).1 (bb_md 91).1 ∈ bb_TB := bb_tb (i := 396) (by decide +kernel) rfl
theorem mV_91 : bb_mV 91 1 2 := ⟨⟨wd_268, wd_269, wd_261, wd_267⟩, ⟨by decide +kernel, by decide +kernel, by decide +kernel⟩, ⟨by decide +kernel, by decide +kernel⟩, ⟨by decide, by decide, by decide⟩, _, _, rfl⟩
theorem wd_270 : Cond.code (bb_md 92).1 (bb_md 92).2.1 (bb_md 92).2.2.1 (bb_md 92).2.2.2 ∈ bb_TB := bb_tb (i := 393) (by decide +kernel) rfl
theorem wd_271 : Cond.instanceMethod (bb_md 92).1 ∈ bb_TB := bb_tb (i := 391) (by decide +kernel) rfl
theorem wd_272 : Cond.selects (bb_md 92).1.cls (bb_md 92).1 (bb_md 92).1 ∈ bb_TB := bb_tb (i := 392) (by decide +kernel) rfl
theorem mV_92 : bb_mV 92 1 2 := ⟨⟨wd_271, wd_272, wd_261, wd_270⟩, ⟨by decide +kernel, by decide +kernel, by decide +kernel⟩, ⟨by decide +kernel, by decide +kernel⟩, ⟨by decide, by decide, by decide⟩, _, _, rfl⟩
theorem wd_273 : Cond.code (bb_md 93).1 (bb_md 93).2.1 (bb_md 93).2.2.1 (bb_md 93).2.2.2 ∈ bb_TB := bb_tb (i := 307) (by decide +kernel) rfl
theorem wd_274 : Cond.instanceMethod (bb_md 93).1 ∈ bb_TB := bb_tb (i := 305) (by decide +kernel) rfl
theorem wd_275 : Cond.selects (bb_md 93).1.cls (bb_md 93).1 (bb_md 93).1 ∈ bb_TB := bb_tb (i := 306) (by decide +kernel) rfl
theorem mV_93 : bb_mV 93 1 3 := ⟨⟨wd_274, wd_275, wd_261, wd_273⟩, ⟨by decide +kernel, by decide +kernel, by decide +kernel⟩, ⟨by decide +kernel, by decide +kernel⟩, ⟨by decide, by decide, by decide⟩, _, _, rfl⟩
theorem wd_276 : Cond.code (bb_md 94).1 (bb_md 94).2.1 (bb_md 94).2.2.1 (bb_md 94).2.2.2 ∈ bb_TB := bb_tb (i := 360) (by decide +kernel) rfl
theorem wd_277 : Cond.instanceMethod (bb_md 94).1 ∈ bb_TB := bb_tb (i := 358) (by decide +kernel) rfl
theorem wd_278 : Cond.selects (bb_md 94).1.cls (bb_md 94).1 (bb_md 94).1 ∈ bb_TB := bb_tb (i := 359) (by decide +kernel) rfl
theorem mV_94 : bb_mV 94 1 2 := ⟨⟨wd_277, wd_278, wd_261, wd_276⟩, ⟨by decide +kernel, by decide +kernel, by decide +kernel⟩, ⟨by decide +kernel, by decide +kernel⟩, ⟨by decide, by decide, by decide⟩, _, _, rfl⟩
theorem wd_279 : Cond.code (bb_md 95).1 (bb_md 95).2.1 (bb_md 95).2.2.1 (bb_md 95).2.2.2 ∈ bb_TB := bb_tb (i := 369) (by decide +kernel) rfl
theorem wd_280 : Cond.instanceMethod (bb_md 95).1 ∈ bb_TB := bb_tb (i := 367) (by decide +kernel) rfl
theorem wd_281 : Cond.selects (bb_md 95).1.cls (bb_md 95).1 (bb_md 95).1 ∈ bb_TB := bb_tb (i := 368) (by decide +kernel) rfl
theorem mV_95 : bb_mV 95 1 3 := ⟨⟨wd_280, wd_281, wd_261, wd_279⟩, ⟨by decide +kernel, by decide +kernel, by decide +kernel⟩, ⟨by decide +kernel, by decide +kernel⟩, ⟨by decide, by decide, by decide⟩, _, _, rfl⟩
theorem wd_282 : Cond.code (bb_md 96).1 (bb_md 96).2.1 (bb_md 96).2.2.1 (bb_md 96).2.2.2 ∈ bb_TB := bb_tb (i := 373) (by decide +kernel) rfl
theorem wd_283 : Cond.instanceMethod (bb_md 96).1 ∈ bb_TB := bb_tb (i := 371) (by decide +kernel) rfl
theorem wd_284 : Cond.selects (bb_md 96).1.cls (bb_md 96).1 (bb_md 96).1 ∈ bb_TB := bb_tb (i := 372) (by decide +kernel) rfl
theorem mV_96 : bb_mV 96 1 3 := ⟨⟨wd_283, wd_284, wd_261, wd_282⟩, ⟨by decide +kernel, by decide +kernel, by decide +kernel⟩, ⟨by decide +kernel, by decide +kernel⟩, ⟨by decide, by decide, by decide⟩, _, _, rfl⟩
theorem wd_285 : Cond.code (bb_md 97).1 (bb_md 97).2.1 (bb_md 97).2.2.1 (bb_md 97).2.2.2 ∈ bb_TB := bb_tb (i := 319) (by decide +kernel) rfl
theorem wd_286 : Cond.instanceMethod (bb_md 97).1 ∈ bb_TB := bb_tb (i := 317) (by decide +kernel) rfl
theorem wd_287 : Cond.selects (bb_md 97).1.cls (bb_md 97).1 (bb_md 97).1 ∈ bb_TB := bb_tb (i := 318) (by decide +kernel) rfl
theorem mV_97 : bb_mV 97 1 1 := ⟨⟨wd_286, wd_287, wd_261, wd_285⟩, ⟨by decide +kernel, by decide +kernel, by decide +kernel⟩, ⟨by decide +kernel, by decide +kernel⟩, ⟨by decide, by decide, by decide⟩, _, _, rfl⟩
theorem wd_288 : Cond.code (bb_md 98).1 (bb_md 98).2.1 (bb_md 98).2.2.1 (bb_md 98).2.2.2 ∈ bb_TB := bb_tb (i := 435) (by decide +kernel) rfl
theorem wd_289 : Cond.initialized RX2 ∈ bb_TB := bb_tb (i := 58) (by decide +kernel) rfl
theorem wd_290 : Cond.instanceMethod (bb_md 98).1 ∈ bb_TB := bb_tb (i := 433) (by decide +kernel) rfl
theorem wd_291 : Cond.selects (bb_md 98).1.cls (bb_md 98).1 (bb_md 98).1 ∈ bb_TB := bb_tb (i := 434) (by decide +kernel) rfl
theorem mV_98 : bb_mV 98 2 2 := ⟨⟨wd_290, wd_291, wd_289, wd_288⟩, ⟨by decide +kernel, by decide +kernel, by decide +kernel⟩, ⟨by decide +kernel, by decide +kernel⟩, ⟨by decide, by decide, by decide⟩, _, _, rfl⟩
theorem wd_292 : Cond.code (bb_md 99).1 (bb_md 99).2.1 (bb_md 99).2.2.1 (bb_md 99).2.2.2 ∈ bb_TB := bb_tb (i := 405) (by decide +kernel) rfl
theorem wd_293 : Cond.instanceMethod (bb_md 99).1 ∈ bb_TB := bb_tb (i := 403) (by decide +kernel) rfl
theorem wd_294 : Cond.selects (bb_md 99).1.cls (bb_md 99).1 (bb_md 99).1 ∈ bb_TB := bb_tb (i := 404) (by decide +kernel) rfl
theorem mV_99 : bb_mV 99 2 6 := ⟨⟨wd_293, wd_294, wd_289, wd_292⟩, ⟨by decide +kernel, by decide +kernel, by decide +kernel⟩, ⟨by decide +kernel, by decide +kernel⟩, ⟨by decide, by decide, by decide⟩, _, _, rfl⟩
theorem wd_295 : Cond.code (bb_md 100).1 (bb_md 100).2.1 (bb_md 100).2.2.1 (bb_md 100).2.2.2 ∈ bb_TB := bb_tb (i := 409) (by decide +kernel) rfl
theorem wd_296 : Cond.instanceMethod (bb_md 100).1 ∈ bb_TB := bb_tb (i := 408) (by decide +kernel) rfl
theorem wd_297 : Cond.selects (bb_md 100).1.cls (bb_md 100).1 (bb_md 100).1 ∈ bb_TB := bb_tb (i := 11) (by decide +kernel) rfl
theorem mV_100 : bb_mV 100 2 3 := ⟨⟨wd_296, wd_297, wd_289, wd_295⟩, ⟨by decide +kernel, by decide +kernel, by decide +kernel⟩, ⟨by decide +kernel, by decide +kernel⟩, ⟨by decide, by decide, by decide⟩, _, _, rfl⟩
theorem wd_298 : Cond.code (bb_md 101).1 (bb_md 101).2.1 (bb_md 101).2.2.1 (bb_md 101).2.2.2 ∈ bb_TB := bb_tb (i := 414) (by decide +kernel) rfl
theorem wd_299 : Cond.instanceMethod (bb_md 101).1 ∈ bb_TB := bb_tb (i := 413) (by decide +kernel) rfl
theorem wd_300 : Cond.selects (bb_md 101).1.cls (bb_md 101).1 (bb_md 101).1 ∈ bb_TB := bb_tb (i := 12) (by decide +kernel) rfl
theorem mV_101 : bb_mV 101 2 3 := ⟨⟨wd_299, wd_300, wd_289, wd_298⟩, ⟨by decide +kernel, by decide +kernel, by decide +kernel⟩, ⟨by decide +kernel, by decide +kernel⟩, ⟨by decide, by decide, by decide⟩, _, _, rfl⟩
theorem wd_301 : Cond.code (bb_md 102).1 (bb_md 102).2.1 (bb_md 102).2.2.1 (bb_md 102).2.2.2 ∈ bb_TB := bb_tb (i := 418) (by decide +kernel) rfl
theorem wd_302 : Cond.instanceMethod (bb_md 102).1 ∈ bb_TB := bb_tb (i := 417) (by decide +kernel) rfl
theorem wd_303 : Cond.selects (bb_md 102).1.cls (bb_md 102).1 (bb_md 102).1 ∈ bb_TB := bb_tb (i := 13) (by decide +kernel) rfl
theorem mV_102 : bb_mV 102 2 5 := ⟨⟨wd_302, wd_303, wd_289, wd_301⟩, ⟨by decide +kernel, by decide +kernel, by decide +kernel⟩, ⟨by decide +kernel, by decide +kernel⟩, ⟨by decide, by decide, by decide⟩, _, _, rfl⟩
theorem wd_304 : Cond.code (bb_md 103).1 (bb_md 103).2.1 (bb_md 103).2.2.1 (bb_md 103).2.2.2 ∈ bb_TB := bb_tb (i := 423) (by decide +kernel) rfl
theorem wd_305 : Cond.instanceMethod (bb_md 103).1 ∈ bb_TB := bb_tb (i := 422) (by decide +kernel) rfl
theorem wd_306 : Cond.selects (bb_md 103).1.cls (bb_md 103).1 (bb_md 103).1 ∈ bb_TB := bb_tb (i := 14) (by decide +kernel) rfl
theorem mV_103 : bb_mV 103 2 4 := ⟨⟨wd_305, wd_306, wd_289, wd_304⟩, ⟨by decide +kernel, by decide +kernel, by decide +kernel⟩, ⟨by decide +kernel, by decide +kernel⟩, ⟨by decide, by decide, by decide⟩, _, _, rfl⟩
theorem wd_307 : Cond.code (bb_md 104).1 (bb_md 104).2.1 (bb_md 104).2.2.1 (bb_md 104).2.2.2 ∈ bb_TB := bb_tb (i := 267) (by decide +kernel) rfl
theorem wd_308 : Cond.initialized RX3 ∈ bb_TB := bb_tb (i := 53) (by decide +kernel) rfl
theorem wd_309 : Cond.instanceMethod (bb_md 104).1 ∈ bb_TB := bb_tb (i := 265) (by decide +kernel) rfl
theorem wd_310 : Cond.selects (bb_md 104).1.cls (bb_md 104).1 (bb_md 104).1 ∈ bb_TB := bb_tb (i := 266) (by decide +kernel) rfl
theorem mV_104 : bb_mV 104 3 2 := ⟨⟨wd_309, wd_310, wd_308, wd_307⟩, ⟨by decide +kernel, by decide +kernel, by decide +kernel⟩, ⟨by decide +kernel, by decide +kernel⟩, ⟨by decide, by decide, by decide⟩, _, _, rfl⟩
theorem wd_311 : Cond.code (bb_md 105).1 (bb_md 105).2.1 (bb_md 105).2.2.1 (bb_md 105).2.2.2 ∈ bb_TB := bb_tb (i := 255) (by decide +kernel) rfl
theorem wd_312 : Cond.instanceMethod (bb_md 105).1 ∈ bb_TB := bb_tb (i := 253) (by decide +kernel) rfl
theorem wd_313 : Cond.selects (bb_md 105).1.cls (bb_md 105).1 (bb_md 105).1 ∈ bb_TB := bb_tb (i := 254) (by decide +kernel) rfl
theorem mV_105 : bb_mV 105 3 3 := ⟨⟨wd_312, wd_313, wd_308, wd_311⟩, ⟨by decide +kernel, by decide +kernel, by decide +kernel⟩, ⟨by decide +kernel, by decide +kernel⟩, ⟨by decide, by decide, by decide⟩, _, _, rfl⟩
theorem wd_314 : Cond.code (bb_md 106).1 (bb_md 106).2.1 (bb_md 106).2.2.1 (bb_md 106).2.2.2 ∈ bb_TB := bb_tb (i := 280) (by decide +kernel) rfl
theorem wd_315 : Cond.instanceMethod (bb_md 106).1 ∈ bb_TB := bb_tb (i := 278) (by decide +kernel) rfl
theorem wd_316 : Cond.selects (bb_md 106).1.cls (bb_md 106).1 (bb_md 106).1 ∈ bb_TB := bb_tb (i := 279) (by decide +kernel) rfl
theorem mV_106 : bb_mV 106 3 4 := ⟨⟨wd_315, wd_316, wd_308, wd_314⟩, ⟨by decide +kernel, by decide +kernel, by decide +kernel⟩, ⟨by decide +kernel, by decide +kernel⟩, ⟨by decide, by decide, by decide⟩, _, _, rfl⟩
theorem wd_317 : Cond.code (bb_md 107).1 (bb_md 107).2.1 (bb_md 107).2.2.1 (bb_md 107).2.2.2 ∈ bb_TB := bb_tb (i := 427) (by decide +kernel) rfl
theorem wd_318 : Cond.instanceMethod (bb_md 107).1 ∈ bb_TB := bb_tb (i := 425) (by decide +kernel) rfl
theorem wd_319 : Cond.selects (bb_md 107).1.cls (bb_md 107).1 (bb_md 107).1 ∈ bb_TB := bb_tb (i := 426) (by decide +kernel) rfl
theorem mV_107 : bb_mV 107 3 4 := ⟨⟨wd_318, wd_319, wd_308, wd_317⟩, ⟨by decide +kernel, by decide +kernel, by decide +kernel⟩, ⟨by decide +kernel, by decide +kernel⟩, ⟨by decide, by decide, by decide⟩, _, _, rfl⟩
theorem wd_320 : Cond.code (bb_md 108).1 (bb_md 108).2.1 (bb_md 108).2.2.1 (bb_md 108).2.2.2 ∈ bb_TB := bb_tb (i := 533) (by decide +kernel) rfl
theorem wd_321 : Cond.instanceMethod (bb_md 108).1 ∈ bb_TB := bb_tb (i := 531) (by decide +kernel) rfl
theorem wd_322 : Cond.selects (bb_md 108).1.cls (bb_md 108).1 (bb_md 108).1 ∈ bb_TB := bb_tb (i := 532) (by decide +kernel) rfl
theorem mV_108 : bb_mV 108 3 3 := ⟨⟨wd_321, wd_322, wd_308, wd_320⟩, ⟨by decide +kernel, by decide +kernel, by decide +kernel⟩, ⟨by decide +kernel, by decide +kernel⟩, ⟨by decide, by decide, by decide⟩, _, _, rfl⟩
theorem wd_323 : Cond.code (bb_md 109).1 (bb_md 109).2.1 (bb_md 109).2.2.1 (bb_md 109).2.2.2 ∈ bb_TB := bb_tb (i := 529) (by decide +kernel) rfl
theorem wd_324 : Cond.instanceMethod (bb_md 109).1 ∈ bb_TB := bb_tb (i := 527) (by decide +kernel) rfl
theorem wd_325 : Cond.selects (bb_md 109).1.cls (bb_md 109).1 (bb_md 109).1 ∈ bb_TB := bb_tb (i := 528) (by decide +kernel) rfl
theorem mV_109 : bb_mV 109 3 1 := ⟨⟨wd_324, wd_325, wd_308, wd_323⟩, ⟨by decide +kernel, by decide +kernel, by decide +kernel⟩, ⟨by decide +kernel, by decide +kernel⟩, ⟨by decide, by decide, by decide⟩, _, _, rfl⟩
theorem wd_326 : Cond.code (bb_md 110).1 (bb_md 110).2.1 (bb_md 110).2.2.1 (bb_md 110).2.2.2 ∈ bb_TB := bb_tb (i := 552) (by decide +kernel) rfl
theorem wd_327 : Cond.instanceMethod (bb_md 110).1 ∈ bb_TB := bb_tb (i := 550) (by decide +kernel) rfl
theorem wd_328 : Cond.selects (bb_md 110).1.cls (bb_md 110).1 (bb_md 110).1 ∈ bb_TB := bb_tb (i := 551) (by decide +kernel) rfl
theorem mV_110 : bb_mV 110 3 2 := ⟨⟨wd_327, wd_328, wd_308, wd_326⟩, ⟨by decide +kernel, by decide +kernel, by decide +kernel⟩, ⟨by decide +kernel, by decide +kernel⟩, ⟨by decide, by decide, by decide⟩, _, _, rfl⟩
theorem wd_329 : Cond.code (bb_md 111).1 (bb_md 111).2.1 (bb_md 111).2.2.1 (bb_md 111).2.2.2 ∈ bb_TB := bb_tb (i := 456) (by decide +kernel) rfl
theorem wd_330 : Cond.instanceMethod (bb_md 111).1 ∈ bb_TB := bb_tb (i := 454) (by decide +kernel) rfl
theorem wd_331 : Cond.selects (bb_md 111).1.cls (bb_md 111).1 (bb_md 111).1 ∈ bb_TB := bb_tb (i := 455) (by decide +kernel) rfl
theorem mV_111 : bb_mV 111 3 4 := ⟨⟨wd_330, wd_331, wd_308, wd_329⟩, ⟨by decide +kernel, by decide +kernel, by decide +kernel⟩, ⟨by decide +kernel, by decide +kernel⟩, ⟨by decide, by decide, by decide⟩, _, _, rfl⟩
theorem wd_332 : Cond.code (bb_md 112).1 (bb_md 112).2.1 (bb_md 112).2.2.1 (bb_md 112).2.2.2 ∈ bb_TB := bb_tb (i := 461) (by decide +kernel) rfl
theorem wd_333 : Cond.instanceMethod (bb_md 112).1 ∈ bb_TB := bb_tb (i := 459) (by decide +kernel) rfl
theorem wd_334 : Cond.selects (bb_md 112).1.cls (bb_md 112).1 (bb_md 112).1 ∈ bb_TB := bb_tb (i := 460) (by decide +kernel) rfl
theorem mV_112 : bb_mV 112 3 4 := ⟨⟨wd_333, wd_334, wd_308, wd_332⟩, ⟨by decide +kernel, by decide +kernel, by decide +kernel⟩, ⟨by decide +kernel, by decide +kernel⟩, ⟨by decide, by decide, by decide⟩, _, _, rfl⟩
theorem wd_335 : Cond.code (bb_md 113).1 (bb_md 113).2.1 (bb_md 113).2.2.1 (bb_md 113).2.2.2 ∈ bb_TB := bb_tb (i := 452) (by decide +kernel) rfl
theorem wd_336 : Cond.instanceMethod (bb_md 113).1 ∈ bb_TB := bb_tb (i := 450) (by decide +kernel) rfl
theorem wd_337 : Cond.selects (bb_md 113).1.cls (bb_md 113).1 (bb_md 113).1 ∈ bb_TB := bb_tb (i := 451) (by decide +kernel) rfl
theorem mV_113 : bb_mV 113 3 5 := ⟨⟨wd_336, wd_337, wd_308, wd_335⟩, ⟨by decide +kernel, by decide +kernel, by decide +kernel⟩, ⟨by decide +kernel, by decide +kernel⟩, ⟨by decide, by decide, by decide⟩, _, _, rfl⟩
theorem wd_338 : Cond.code (bb_md 114).1 (bb_md 114).2.1 (bb_md 114).2.2.1 (bb_md 114).2.2.2 ∈ bb_TB := bb_tb (i := 465) (by decide +kernel) rfl
theorem wd_339 : Cond.instanceMethod (bb_md 114).1 ∈ bb_TB := bb_tb (i := 464) (by decide +kernel) rfl
theorem wd_340 : Cond.selects (bb_md 114).1.cls (bb_md 114).1 (bb_md 114).1 ∈ bb_TB := bb_tb (i := 16) (by decide +kernel) rfl
theorem mV_114 : bb_mV 114 3 5 := ⟨⟨wd_339, wd_340, wd_308, wd_338⟩, ⟨by decide +kernel, by decide +kernel, by decide +kernel⟩, ⟨by decide +kernel, by decide +kernel⟩, ⟨by decide, by decide, by decide⟩, _, _, rfl⟩
theorem wd_341 : Cond.code (bb_md 115).1 (bb_md 115).2.1 (bb_md 115).2.2.1 (bb_md 115).2.2.2 ∈ bb_TB := bb_tb (i := 556) (by decide +kernel) rfl
theorem wd_342 : Cond.instanceMethod (bb_md 115).1 ∈ bb_TB := bb_tb (i := 554) (by decide +kernel) rfl
theorem wd_343 : Cond.selects (bb_md 115).1.cls (bb_md 115).1 (bb_md 115).1 ∈ bb_TB := bb_tb (i := 555) (by decide +kernel) rfl
theorem mV_115 : bb_mV 115 3 3 := ⟨⟨wd_342, wd_343, wd_308, wd_341⟩, ⟨by decide +kernel, by decide +kernel, by decide +kernel⟩, ⟨by decide +kernel, by decide +kernel⟩, ⟨by decide, by decide, by decide⟩, _, _, rfl⟩
theorem wd_344 : Cond.code (bb_md 116).1 (bb_md 116).2.1 (bb_md 116).2.2.1 (bb_md 116).2.2.2 ∈ bb_TB := bb_tb (i := 448) (by decide +kernel) rfl
theorem wd_345 : Cond.instanceMethod (bb_md 116).1 ∈ bb_TB := bb_tb (i := 446) (by decide +kernel) rfl
theorem wd_346 : Cond.selects (bb_md 116).1.cls (bb_md 116).1 (bb_md 116).1 ∈ bb_TB := bb_tb (i := 447) (by decide +kernel) rfl
theorem mV_116 : bb_mV 116 3 4 := ⟨⟨wd_345, wd_346, wd_308, wd_344⟩, ⟨by decide +kernel, by decide +kernel, by decide +kernel⟩, ⟨by decide +kernel, by decide +kernel⟩, ⟨by decide, by decide, by decide⟩, _, _, rfl⟩
theorem wd_347 : Cond.code (bb_md 117).1 (bb_md 117).2.1 (bb_md 117).2.2.1 (bb_md 117).2.2.2 ∈ bb_TB := bb_tb (i := 607) (by decide +kernel) rfl
theorem wd_348 : Cond.instanceMethod (bb_md 117).1 ∈ bb_TB := bb_tb (i := 605) (by decide +kernel) rfl
theorem wd_349 : Cond.selects (bb_md 117).1.cls (bb_md 117).1 (bb_md 117).1 ∈ bb_TB := bb_tb (i := 606) (by decide +kernel) rfl
theorem mV_117 : bb_mV 117 3 2 := ⟨⟨wd_348, wd_349, wd_308, wd_347⟩, ⟨by decide +kernel, by decide +kernel, by decide +kernel⟩, ⟨by decide +kernel, by decide +kernel⟩, ⟨by decide, by decide, by decide⟩, _, _, rfl⟩
theorem wd_350 : Cond.code (bb_md 118).1 (bb_md 118).2.1 (bb_md 118).2.2.1 (bb_md 118).2.2.2 ∈ bb_TB := bb_tb (i := 613) (by decide +kernel) rfl
theorem wd_351 : Cond.instanceMethod (bb_md 118).1 ∈ bb_TB := bb_tb (i := 611) (by decide +kernel) rfl
theorem wd_352 : Cond.selects (bb_md 118).1.cls (bb_md 118).1 (bb_md 118).1 ∈ bb_TB := bb_tb (i := 612) (by decide +kernel) rfl
theorem mV_118 : bb_mV 118 3 3 := ⟨⟨wd_351, wd_352, wd_308, wd_350⟩, ⟨by decide +kernel, by decide +kernel, by decide +kernel⟩, ⟨by decide +kernel, by decide +kernel⟩, ⟨by decide, by decide, by decide⟩, _, _, rfl⟩
theorem wd_353 : Cond.code (bb_md 119).1 (bb_md 119).2.1 (bb_md 119).2.2.1 (bb_md 119).2.2.2 ∈ bb_TB := bb_tb (i := 617) (by decide +kernel) rfl
theorem wd_354 : Cond.instanceMethod (bb_md 119).1 ∈ bb_TB := bb_tb (i := 615) (by decide +kernel) rfl
theorem wd_355 : Cond.selects (bb_md 119).1.cls (bb_md 119).1 (bb_md 119).1 ∈ bb_TB := bb_tb (i := 616) (by decide +kernel) rfl
theorem mV_119 : bb_mV 119 3 2 := ⟨⟨wd_354, wd_355, wd_308, wd_353⟩, ⟨by decide +kernel, by decide +kernel, by decide +kernel⟩, ⟨by decide +kernel, by decide +kernel⟩, ⟨by decide, by decide, by decide⟩, _, _, rfl⟩
theorem wd_356 : Cond.code (bb_md 120).1 (bb_md 120).2.1 (bb_md 120).2.2.1 (bb_md 120).2.2.2 ∈ bb_TB := bb_tb (i := 567) (by decide +kernel) rfl
theorem wd_357 : Cond.instanceMethod (bb_md 120).1 ∈ bb_TB := bb_tb (i := 565) (by decide +kernel) rfl
theorem wd_358 : Cond.selects (bb_md 120).1.cls (bb_md 120).1 (bb_md 120).1 ∈ bb_TB := bb_tb (i := 566) (by decide +kernel) rfl
theorem mV_120 : bb_mV 120 3 3 := ⟨⟨wd_357, wd_358, wd_308, wd_356⟩, ⟨by decide +kernel, by decide +kernel, by decide +kernel⟩, ⟨by decide +kernel, by decide +kernel⟩, ⟨by decide, by decide, by decide⟩, _, _, rfl⟩
theorem wd_359 : Cond.code (bb_md 121).1 (bb_md 121).2.1 (bb_md 121).2.2.1 (bb_md 121).2.2.2 ∈ bb_TB := bb_tb (i := 571) (by decide +kernel) rfl
theorem wd_360 : Cond.instanceMethod (bb_md 121).1 ∈ bb_TB := bb_tb (i := 569) (by decide +kernel) rfl
theorem wd_361 : Cond.selects (bb_md 121).1.cls (bb_md 121).1 (bb_md 121).1 ∈ bb_TB := bb_tb (i := 570) (by decide +kernel) rfl
theorem mV_121 : bb_mV 121 3 2 := ⟨⟨wd_360, wd_361, wd_308, wd_359⟩, ⟨by decide +kernel, by decide +kernel, by decide +kernel⟩, ⟨by decide +kernel, by decide +kernel⟩, ⟨by decide, by decide, by decide⟩, _, _, rfl⟩
theorem wd_362 : Cond.code (bb_md 122).1 (bb_md 122).2.1 (bb_md 122).2.2.1 (bb_md 122).2.2.2 ∈ bb_TB := bb_tb (i := 581) (by decide +kernel) rfl
theorem wd_363 : Cond.instanceMethod (bb_md 122).1 ∈ bb_TB := bb_tb (i := 579) (by decide +kernel) rfl
theorem wd_364 : Cond.selects (bb_md 122).1.cls (bb_md 122).1 (bb_md 122).1 ∈ bb_TB := bb_tb (i := 580) (by decide +kernel) rfl
theorem mV_122 : bb_mV 122 3 3 := ⟨⟨wd_363, wd_364, wd_308, wd_362⟩, ⟨by decide +kernel, by decide +kernel, by decide +kernel⟩, ⟨by decide +kernel, by decide +kernel⟩, ⟨by decide, by decide, by decide⟩, _, _, rfl⟩
theorem wd_365 : Cond.code (bb_md 123).1 (bb_md 123).2.1 (bb_md 123).2.2.1 (bb_md 123).2.2.2 ∈ bb_TB := bb_tb (i := 444) (by decide +kernel) rfl
theorem wd_366 : Cond.instanceMethod (bb_md 123).1 ∈ bb_TB := bb_tb (i := 442) (by decide +kernel) rfl
theorem wd_367 : Cond.selects (bb_md 123).1.cls (bb_md 123).1 (bb_md 123).1 ∈ bb_TB := bb_tb (i := 443) (by decide +kernel) rfl
theorem mV_123 : bb_mV 123 3 3 := ⟨⟨wd_366, wd_367, wd_308, wd_365⟩, ⟨by decide +kernel, by decide +kernel, by decide +kernel⟩, ⟨by decide +kernel, by decide +kernel⟩, ⟨by decide, by decide, by decide⟩, _, _, rfl⟩
theorem wd_368 : Cond.code (bb_md 124).1 (bb_md 124).2.1 (bb_md 124).2.2.1 (bb_md 124).2.2.2 ∈ bb_TB := bb_tb (i := 469) (by decide +kernel) rfl
theorem wd_369 : Cond.instanceMethod (bb_md 124).1 ∈ bb_TB := bb_tb (i := 468) (by decide +kernel) rfl
theorem wd_370 : Cond.selects (bb_md 124).1.cls (bb_md 124).1 (bb_md 124).1 ∈ bb_TB := bb_tb (i := 17) (by decide +kernel) rfl
theorem mV_124 : bb_mV 124 3 3 := ⟨⟨wd_369, wd_370, wd_308, wd_368⟩, ⟨by decide +kernel, by decide +kernel, by decide +kernel⟩, ⟨by decide +kernel, by decide +kernel⟩, ⟨by decide, by decide, by decide⟩, _, _, rfl⟩
theorem wd_371 : Cond.code (bb_md 125).1 (bb_md 125).2.1 (bb_md 125).2.2.1 (bb_md 125).2.2.2 ∈ bb_TB := bb_tb (i := 474) (by decide +kernel) rfl
theorem wd_372 : Cond.instanceMethod (bb_md 125).1 ∈ bb_TB := bb_tb (i := 472) (by decide +kernel) rfl
theorem wd_373 : Cond.selects (bb_md 125).1.cls (bb_md 125).1 (bb_md 125).1 ∈ bb_TB := bb_tb (i := 473) (by decide +kernel) rfl
theorem mV_125 : bb_mV 125 3 2 := ⟨⟨wd_372, wd_373, wd_308, wd_371⟩, ⟨by decide +kernel, by decide +kernel, by decide +kernel⟩, ⟨by decide +kernel, by decide +kernel⟩, ⟨by decide, by decide, by decide⟩, _, _, rfl⟩
theorem wd_374 : Cond.code (bb_md 126).1 (bb_md 126).2.1 (bb_md 126).2.2.1 (bb_md 126).2.2.2 ∈ bb_TB := bb_tb (i := 478) (by decide +kernel) rfl
theorem wd_375 : Cond.instanceMethod (bb_md 126).1 ∈ bb_TB := bb_tb (i := 477) (by decide +kernel) rfl
theorem wd_376 : Cond.selects (bb_md 126).1.cls (bb_md 126).1 (bb_md 126).1 ∈ bb_TB := bb_tb (i := 18) (by decide +kernel) rfl
theorem mV_126 : bb_mV 126 3 3 := ⟨⟨wd_375, wd_376, wd_308, wd_374⟩, ⟨by decide +kernel, by decide +kernel, by decide +kernel⟩, ⟨by decide +kernel, by decide +kernel⟩, ⟨by decide, by decide, by decide⟩, _, _, rfl⟩
theorem wd_377 : Cond.code (bb_md 127).1 (bb_md 127).2.1 (bb_md 127).2.2.1 (bb_md 127).2.2.2 ∈ bb_TB := bb_tb (i := 483) (by decide +kernel) rfl
theorem wd_378 : Cond.instanceMethod (bb_md 127).1 ∈ bb_TB := bb_tb (i := 482) (by decide +kernel) rfl
theorem wd_379 : Cond.selects (bb_md 127).1.cls (bb_md 127).1 (bb_md 127).1 ∈ bb_TB := bb_tb (i := 19) (by decide +kernel) rfl
theorem mV_127 : bb_mV 127 3 3 := ⟨⟨wd_378, wd_379, wd_308, wd_377⟩, ⟨by decide +kernel, by decide +kernel, by decide +kernel⟩, ⟨by decide +kernel, by decide +kernel⟩, ⟨by decide, by decide, by decide⟩, _, _, rfl⟩
theorem wd_380 : Cond.code (bb_md 128).1 (bb_md 128).2.1 (bb_md 128).2.2.1 (bb_md 128).2.2.2 ∈ bb_TB := bb_tb (i := 263) (by decide +kernel) rfl
theorem wd_381 : Cond.initialized RX4 ∈ bb_TB := bb_tb (i := 52) (by decide +kernel) rfl
theorem wd_382 : Cond.instanceMethod (bb_md 128).1 ∈ bb_TB := bb_tb (i := 261) (by decide +kernel) rfl
theorem wd_383 : Cond.selects (bb_md 128).1.cls (bb_md 128).1 (bb_md 128).1 ∈ bb_TB := bb_tb (i := 262) (by decide +kernel) rfl
theorem mV_128 : bb_mV 128 4 2 := ⟨⟨wd_382, wd_383, wd_381, wd_380⟩, ⟨by decide +kernel, by decide +kernel, by decide +kernel⟩, ⟨by decide +kernel, by decide +kernel⟩, ⟨by decide, by decide, by decide⟩, _, _, rfl⟩
theorem wd_384 : Cond.code (bb_md 129).1 (bb_md 129).2.1 (bb_md 129).2.2.1 (bb_md 129).2.2.2 ∈ bb_TB := bb_tb (i := 431) (by decide +kernel) rfl
theorem wd_385 : Cond.instanceMethod (bb_md 129).1 ∈ bb_TB := bb_tb (i := 429) (by decide +kernel) rfl
theorem wd_386 : Cond.selects (bb_md 129).1.cls (bb_md 129).1 (bb_md 129).1 ∈ bb_TB := bb_tb (i := 430) (by decide +kernel) rfl
theorem mV_129 : bb_mV 129 4 3 := ⟨⟨wd_385, wd_386, wd_381, wd_384⟩, ⟨by decide +kernel, by decide +kernel, by decide +kernel⟩, ⟨by decide +kernel, by decide +kernel⟩, ⟨by decide, by decide, by decide⟩, _, _, rfl⟩
theorem wd_387 : Cond.code (bb_md 130).1 (bb_md 130).2.1 (bb_md 130).2.2.1 (bb_md 130).2.2.2 ∈ bb_TB := bb_tb (i := 497) (by decide +kernel) rfl
theorem wd_388 : Cond.initialized RX5 ∈ bb_TB := bb_tb (i := 57) (by decide +kernel) rfl
theorem wd_389 : Cond.instanceMethod (bb_md 130).1 ∈ bb_TB := bb_tb (i := 495) (by decide +kernel) rfl
theorem wd_390 : Cond.selects (bb_md 130).1.cls (bb_md 130).1 (bb_md 130).1 ∈ bb_TB := bb_tb (i := 496) (by decide +kernel) rfl
theorem mV_130 : bb_mV 130 5 1 := ⟨⟨wd_389, wd_390, wd_388, wd_387⟩, ⟨by decide +kernel, by decide +kernel, by decide +kernel⟩, ⟨by decide +kernel, by decide +kernel⟩, ⟨by decide, by decide, by decide⟩, _, _, rfl⟩
theorem wd_391 : Cond.code (bb_md 131).1 (bb_md 131).2.1 (bb_md 131).2.2.1 (bb_md 131).2.2.2 ∈ bb_TB := bb_tb (i := 501) (by decide +kernel) rfl
theorem wd_392 : Cond.instanceMethod (bb_md 131).1 ∈ bb_TB := bb_tb (i := 499) (by decide +kernel) rfl
theorem wd_393 : Cond.selects (bb_md 131).1.cls (bb_md 131).1 (bb_md 131).1 ∈ bb_TB := bb_tb (i := 500) (by decide +kernel) rfl
theorem mV_131 : bb_mV 131 5 2 := ⟨⟨wd_392, wd_393, wd_388, wd_391⟩, ⟨by decide +kernel, by decide +kernel, by decide +kernel⟩, ⟨by decide +kernel, by decide +kernel⟩, ⟨by decide, by decide, by decide⟩, _, _, rfl⟩
theorem wd_394 : Cond.code (bb_md 132).1 (bb_md 132).2.1 (bb_md 132).2.2.1 (bb_md 132).2.2.2 ∈ bb_TB := bb_tb (i := 509) (by decide +kernel) rfl
theorem wd_395 : Cond.instanceMethod (bb_md 132).1 ∈ bb_TB := bb_tb (i := 507) (by decide +kernel) rfl
theorem wd_396 : Cond.selects (bb_md 132).1.cls (bb_md 132).1 (bb_md 132).1 ∈ bb_TB := bb_tb (i := 508) (by decide +kernel) rfl
theorem mV_132 : bb_mV 132 5 1 := ⟨⟨wd_395, wd_396, wd_388, wd_394⟩, ⟨by decide +kernel, by decide +kernel, by decide +kernel⟩, ⟨by decide +kernel, by decide +kernel⟩, ⟨by decide, by decide, by decide⟩, _, _, rfl⟩
theorem wd_397 : Cond.code (bb_md 133).1 (bb_md 133).2.1 (bb_md 133).2.2.1 (bb_md 133).2.2.2 ∈ bb_TB := bb_tb (i := 352) (by decide +kernel) rfl
theorem wd_398 : Cond.instanceMethod (bb_md 133).1 ∈ bb_TB := bb_tb (i := 350) (by decide +kernel) rfl
theorem wd_399 : Cond.selects (bb_md 133).1.cls (bb_md 133).1 (bb_md 133).1 ∈ bb_TB := bb_tb (i := 351) (by decide +kernel) rfl
theorem mV_133 : bb_mV 133 5 1 := ⟨⟨wd_398, wd_399, wd_388, wd_397⟩, ⟨by decide +kernel, by decide +kernel, by decide +kernel⟩, ⟨by decide +kernel, by decide +kernel⟩, ⟨by decide, by decide, by decide⟩, _, _, rfl⟩
theorem wd_400 : Cond.code (bb_md 134).1 (bb_md 134).2.1 (bb_md 134).2.2.1 (bb_md 134).2.2.2 ∈ bb_TB := bb_tb (i := 356) (by decide +kernel) rfl
theorem wd_401 : Cond.instanceMethod (bb_md 134).1 ∈ bb_TB := bb_tb (i := 354) (by decide +kernel) rfl
theorem wd_402 : Cond.selects (bb_md 134).1.cls (bb_md 134).1 (bb_md 134).1 ∈ bb_TB := bb_tb (i := 355) (by decide +kernel) rfl
theorem mV_134 : bb_mV 134 5 1 := ⟨⟨wd_401, wd_402, wd_388, wd_400⟩, ⟨by decide +kernel, by decide +kernel, by decide +kernel⟩, ⟨by decide +kernel, by decide +kernel⟩, ⟨by decide, by decide, by decide⟩, _, _, rfl⟩
theorem wd_403 : Cond.code (bb_md 135).1 (bb_md 135).2.1 (bb_md 135).2.2.1 (bb_md 135).2.2.2 ∈ bb_TB := bb_tb (i := 315) (by decide +kernel) rfl
theorem wd_404 : Cond.instanceMethod (bb_md 135).1 ∈ bb_TB := bb_tb (i := 313) (by decide +kernel) rfl
theorem wd_405 : Cond.selects (bb_md 135).1.cls (bb_md 135).1 (bb_md 135).1 ∈ bb_TB := bb_tb (i := 314) (by decide +kernel) rfl
theorem mV_135 : bb_mV 135 5 1 := ⟨⟨wd_404, wd_405, wd_388, wd_403⟩, ⟨by decide +kernel, by decide +kernel, by decide +kernel⟩, ⟨by decide +kernel, by decide +kernel⟩, ⟨by decide, by decide, by decide⟩, _, _, rfl⟩
theorem wd_406 : Cond.code (bb_md 136).1 (bb_md 136).2.1 (bb_md 136).2.2.1 (bb_md 136).2.2.2 ∈ bb_TB := bb_tb (i := 323) (by decide +kernel) rfl
theorem wd_407 : Cond.instanceMethod (bb_md 136).1 ∈ bb_TB := bb_tb (i := 322) (by decide +kernel) rfl
theorem wd_408 : Cond.selects (bb_md 136).1.cls (bb_md 136).1 (bb_md 136).1 ∈ bb_TB := bb_tb (i := 0) (by decide +kernel) rfl
theorem mV_136 : bb_mV 136 5 3 := ⟨⟨wd_407, wd_408, wd_388, wd_406⟩, ⟨by decide +kernel, by decide +kernel, by decide +kernel⟩, ⟨by decide +kernel, by decide +kernel⟩, ⟨by decide, by decide, by decide⟩, _, _, rfl⟩
theorem wd_409 : Cond.code (bb_md 137).1 (bb_md 137).2.1 (bb_md 137).2.2.1 (bb_md 137).2.2.2 ∈ bb_TB := bb_tb (i := 327) (by decide +kernel) rfl
theorem wd_410 : Cond.instanceMethod (bb_md 137).1 ∈ bb_TB := bb_tb (i := 326) (by decide +kernel) rfl
theorem wd_411 : Cond.selects (bb_md 137).1.cls (bb_md 137).1 (bb_md 137).1 ∈ bb_TB := bb_tb (i := 1) (by decide +kernel) rfl
theorem mV_137 : bb_mV 137 5 2 := ⟨⟨wd_410, wd_411, wd_388, wd_409⟩, ⟨by decide +kernel, by decide +kernel, by decide +kernel⟩, ⟨by decide +kernel, by decide +kernel⟩, ⟨by decide, by decide, by decide⟩, _, _, rfl⟩
theorem wd_412 : Cond.code (bb_md 138).1 (bb_md 138).2.1 (bb_md 138).2.2.1 (bb_md 138).2.2.2 ∈ bb_TB := bb_tb (i := 331) (by decide +kernel) rfl
theorem wd_413 : Cond.instanceMethod (bb_md 138).1 ∈ bb_TB := bb_tb (i := 330) (by decide +kernel) rfl
theorem wd_414 : Cond.selects (bb_md 138).1.cls (bb_md 138).1 (bb_md 138).1 ∈ bb_TB := bb_tb (i := 2) (by decide +kernel) rfl
theorem mV_138 : bb_mV 138 5 2 := ⟨⟨wd_413, wd_414, wd_388, wd_412⟩, ⟨by decide +kernel, by decide +kernel, by decide +kernel⟩, ⟨by decide +kernel, by decide +kernel⟩, ⟨by decide, by decide, by decide⟩, _, _, rfl⟩
theorem wd_415 : Cond.code (bb_md 139).1 (bb_md 139).2.1 (bb_md 139).2.2.1 (bb_md 139).2.2.2 ∈ bb_TB := bb_tb (i := 335) (by decide +kernel) rfl
theorem wd_416 : Cond.instanceMethod (bb_md 139).1 ∈ bb_TB := bb_tb (i := 334) (by decide +kernel) rfl
theorem wd_417 : Cond.selects (bb_md 139).1.cls (bb_md 139).1 (bb_md 139).1 ∈ bb_TB := bb_tb (i := 3) (by decide +kernel) rfl
theorem mV_139 : bb_mV 139 5 2 := ⟨⟨wd_416, wd_417, wd_388, wd_415⟩, ⟨by decide +kernel, by decide +kernel, by decide +kernel⟩, ⟨by decide +kernel, by decide +kernel⟩, ⟨by decide, by decide, by decide⟩, _, _, rfl⟩
theorem wd_418 : Cond.code (bb_md 140).1 (bb_md 140).2.1 (bb_md 140).2.2.1 (bb_md 140).2.2.2 ∈ bb_TB := bb_tb (i := 348) (by decide +kernel) rfl
theorem wd_419 : Cond.instanceMethod (bb_md 140).1 ∈ bb_TB := bb_tb (i := 347) (by decide +kernel) rfl
theorem wd_420 : Cond.selects (bb_md 140).1.cls (bb_md 140).1 (bb_md 140).1 ∈ bb_TB := bb_tb (i := 6) (by decide +kernel) rfl
theorem mV_140 : bb_mV 140 5 2 := ⟨⟨wd_419, wd_420, wd_388, wd_418⟩, ⟨by decide +kernel, by decide +kernel, by decide +kernel⟩, ⟨by decide +kernel, by decide +kernel⟩, ⟨by decide, by decide, by decide⟩, _, _, rfl⟩
theorem wd_421 : Cond.code (bb_md 141).1 (bb_md 141).2.1 (bb_md 141).2.2.1 (bb_md 141).2.2.2 ∈ bb_TB := bb_tb (i := 339) (by decide +kernel) rfl
theorem wd_422 : Cond.instanceMethod (bb_md 141).1 ∈ bb_TB := bb_tb (i := 338) (by decide +kernel) rfl
theorem wd_423 : Cond.selects (bb_md 141).1.cls (bb_md 141).1 (bb_md 141).1 ∈ bb_TB := bb_tb (i := 4) (by decide +kernel) rfl
theorem mV_141 : bb_mV 141 5 2 := ⟨⟨wd_422, wd_423, wd_388, wd_421⟩, ⟨by decide +kernel, by decide +kernel, by decide +kernel⟩, ⟨by decide +kernel, by decide +kernel⟩, ⟨by decide, by decide, by decide⟩, _, _, rfl⟩
theorem wd_424 : Cond.code (bb_md 142).1 (bb_md 142).2.1 (bb_md 142).2.2.1 (bb_md 142).2.2.2 ∈ bb_TB := bb_tb (i := 343) (by decide +kernel) rfl
theorem wd_425 : Cond.instanceMethod (bb_md 142).1 ∈ bb_TB := bb_tb (i := 342) (by decide +kernel) rfl
theorem wd_426 : Cond.selects (bb_md 142).1.cls (bb_md 142).1 (bb_md 142).1 ∈ bb_TB := bb_tb (i := 5) (by decide +kernel) rfl
theorem mV_142 : bb_mV 142 5 1 := ⟨⟨wd_425, wd_426, wd_388, wd_424⟩, ⟨by decide +kernel, by decide +kernel, by decide +kernel⟩, ⟨by decide +kernel, by decide +kernel⟩, ⟨by decide, by decide, by decide⟩, _, _, rfl⟩
theorem wd_427 : Cond.constant RJ6 265 (1431655765) ∈ bb_TB := bb_tb (i := 560) (by decide +kernel) rfl
theorem wd_428 : Cond.constant RJ6 266 (858993459) ∈ bb_TB := bb_tb (i := 561) (by decide +kernel) rfl
theorem wd_429 : Cond.constant RJ6 267 (252645135) ∈ bb_TB := bb_tb (i := 562) (by decide +kernel) rfl
theorem wd_430 : Cond.methodLink RX6 54 (bb_md 22).1 ∈ bb_TB := bb_tb (i := 246) (by decide +kernel) rfl
theorem wd_431 : Cond.methodLink RX6 58 (bb_md 23).1 ∈ bb_TB := bb_tb (i := 249) (by decide +kernel) rfl
theorem wd_432 : Cond.fieldLink RX6 12 "BeachBars" (TX6 0).2.1 (TX6 0).2.2.1 ∈ bb_TB := bb_tb (i := 214) (by decide +kernel) rfl
theorem wd_433 : Cond.methodLink RX6 64 (bb_md 105).1 ∈ bb_TB := bb_tb (i := 252) (by decide +kernel) rfl
theorem wd_434 : Cond.fieldLink RX6 25 "BeachBars" (TX6 4).2.1 (TX6 4).2.2.1 ∈ bb_TB := bb_tb (i := 218) (by decide +kernel) rfl
theorem wd_435 : Cond.methodLink RX6 68 (bb_md 87).1 ∈ bb_TB := bb_tb (i := 256) (by decide +kernel) rfl
theorem wd_436 : Cond.methodLink RX6 72 (bb_md 106).1 ∈ bb_TB := bb_tb (i := 277) (by decide +kernel) rfl
theorem wd_437 : Cond.fieldLink RX6 83 "BeachBars" "LEAST_SETTING" "[I" ∈ bb_TB := bb_tb (i := 289) (by decide +kernel) rfl
theorem wd_438 : Cond.fieldLink RX6 86 "BeachBars" "MOST_SETTING" "[I" ∈ bb_TB := bb_tb (i := 291) (by decide +kernel) rfl
theorem wd_439 : Cond.methodLink RX6 92 (bb_md 24).1 ∈ bb_TB := bb_tb (i := 297) (by decide +kernel) rfl
theorem wd_440 : Cond.methodLink RX6 99 (bb_md 90).1 ∈ bb_TB := bb_tb (i := 300) (by decide +kernel) rfl
theorem wd_441 : Cond.methodLink RX6 105 (bb_md 93).1 ∈ bb_TB := bb_tb (i := 304) (by decide +kernel) rfl
theorem wd_442 : Cond.fieldLink RX6 32 "BeachBars" (TX6 5).2.1 (TX6 5).2.2.1 ∈ bb_TB := bb_tb (i := 219) (by decide +kernel) rfl
theorem wd_443 : Cond.methodLink RX6 109 (bb_md 135).1 ∈ bb_TB := bb_tb (i := 312) (by decide +kernel) rfl
theorem wd_444 : Cond.methodLink RX6 112 (bb_md 133).1 ∈ bb_TB := bb_tb (i := 349) (by decide +kernel) rfl
theorem wd_445 : Cond.methodLink RX6 115 (bb_md 134).1 ∈ bb_TB := bb_tb (i := 353) (by decide +kernel) rfl
theorem wd_446 : Cond.methodLink RX6 118 (bb_md 94).1 ∈ bb_TB := bb_tb (i := 357) (by decide +kernel) rfl
theorem wd_447 : Cond.methodLink RX6 122 (bb_md 95).1 ∈ bb_TB := bb_tb (i := 366) (by decide +kernel) rfl
theorem wd_448 : Cond.methodLink RX6 126 (bb_md 96).1 ∈ bb_TB := bb_tb (i := 370) (by decide +kernel) rfl
theorem wd_449 : Cond.methodLink RX6 129 (bb_md 27).1 ∈ bb_TB := bb_tb (i := 378) (by decide +kernel) rfl
theorem wd_450 : Cond.methodLink RX6 133 (bb_md 30).1 ∈ bb_TB := bb_tb (i := 437) (by decide +kernel) rfl
theorem wd_451 : Cond.methodLink RX6 136 (bb_md 97).1 ∈ bb_TB := bb_tb (i := 484) (by decide +kernel) rfl
theorem wd_452 : Cond.fieldLink RX6 16 "BeachBars" (TX6 1).2.1 (TX6 1).2.2.1 ∈ bb_TB := bb_tb (i := 215) (by decide +kernel) rfl
theorem wd_453 : Cond.methodLink RX6 139 (bb_md 128).1 ∈ bb_TB := bb_tb (i := 489) (by decide +kernel) rfl
theorem wd_454 : Cond.methodLink RX6 142 (bb_md 130).1 ∈ bb_TB := bb_tb (i := 494) (by decide +kernel) rfl
theorem wd_455 : Cond.methodLink RX6 145 (bb_md 131).1 ∈ bb_TB := bb_tb (i := 498) (by decide +kernel) rfl
theorem wd_456 : Cond.methodLink RX6 148 (bb_md 132).1 ∈ bb_TB := bb_tb (i := 506) (by decide +kernel) rfl
theorem wd_457 : Cond.methodLink RX6 151 (bb_md 86).1 ∈ bb_TB := bb_tb (i := 514) (by decide +kernel) rfl
theorem wd_458 : Cond.methodLink RX6 152 (bb_md 88).1 ∈ bb_TB := bb_tb (i := 518) (by decide +kernel) rfl
theorem wd_459 : Cond.fieldLink RX6 19 "BeachBars" (TX6 2).2.1 (TX6 2).2.2.1 ∈ bb_TB := bb_tb (i := 216) (by decide +kernel) rfl
theorem wd_460 : Cond.fieldLink RX6 155 "BeachBars" (TX6 3).2.1 (TX6 3).2.2.1 ∈ bb_TB := bb_tb (i := 217) (by decide +kernel) rfl
theorem wd_461 : Cond.methodLink RX6 159 (bb_md 109).1 ∈ bb_TB := bb_tb (i := 526) (by decide +kernel) rfl
theorem wd_462 : Cond.methodLink RX6 162 (bb_md 112).1 ∈ bb_TB := bb_tb (i := 542) (by decide +kernel) rfl
theorem wd_463 : Cond.methodLink RX6 166 (bb_md 113).1 ∈ bb_TB := bb_tb (i := 543) (by decide +kernel) rfl
theorem wd_464 : Cond.methodLink RX6 170 (bb_md 25).1 ∈ bb_TB := bb_tb (i := 544) (by decide +kernel) rfl
theorem wd_465 : Cond.methodLink RX6 173 (bb_md 110).1 ∈ bb_TB := bb_tb (i := 549) (by decide +kernel) rfl
theorem wd_466 : Cond.methodLink RX6 176 (bb_md 115).1 ∈ bb_TB := bb_tb (i := 553) (by decide +kernel) rfl
theorem wd_467 : Cond.methodLink RX6 179 (bb_md 1).1 ∈ bb_TB := bb_tb (i := 557) (by decide +kernel) rfl
theorem wd_468 : Cond.methodLink RX6 184 (bb_md 116).1 ∈ bb_TB := bb_tb (i := 563) (by decide +kernel) rfl
theorem wd_469 : Cond.methodLink RX6 188 (bb_md 120).1 ∈ bb_TB := bb_tb (i := 564) (by decide +kernel) rfl
theorem wd_470 : Cond.methodLink RX6 191 (bb_md 121).1 ∈ bb_TB := bb_tb (i := 568) (by decide +kernel) rfl
theorem wd_471 : Cond.methodLink RX6 194 (bb_md 122).1 ∈ bb_TB := bb_tb (i := 578) (by decide +kernel) rfl
theorem wd_472 : Cond.methodLink RX6 197 (bb_md 92).1 ∈ bb_TB := bb_tb (i := 390) (by decide +kernel) rfl
theorem wd_473 : Cond.methodLink RX6 200 (bb_md 91).1 ∈ bb_TB := bb_tb (i := 394) (by decide +kernel) rfl
theorem wd_474 : Cond.fieldLink RX6 46 "BeachBars" (TX6 7).2.1 (TX6 7).2.2.1 ∈ bb_TB := bb_tb (i := 221) (by decide +kernel) rfl
theorem wd_475 : Cond.methodLink RX6 209 (bb_md 104).1 ∈ bb_TB := bb_tb (i := 594) (by decide +kernel) rfl
theorem wd_476 : Cond.fieldLink RX6 39 "BeachBars" (TX6 6).2.1 (TX6 6).2.2.1 ∈ bb_TB := bb_tb (i := 220) (by decide +kernel) rfl
theorem wd_477 : Cond.methodLink RX6 212 (bb_md 26).1 ∈ bb_TB := bb_tb (i := 398) (by decide +kernel) rfl
theorem wd_478 : Cond.methodLink RX6 215 (bb_md 99).1 ∈ bb_TB := bb_tb (i := 402) (by decide +kernel) rfl
theorem wd_479 : Cond.methodLink RX6 219 (bb_md 98).1 ∈ bb_TB := bb_tb (i := 436) (by decide +kernel) rfl
theorem wd_480 : Cond.methodLink RX6 222 (bb_md 108).1 ∈ bb_TB := bb_tb (i := 599) (by decide +kernel) rfl
theorem wd_481 : Cond.methodLink RX6 225 (bb_md 117).1 ∈ bb_TB := bb_tb (i := 604) (by decide +kernel) rfl
theorem wd_482 : Cond.methodLink RX6 228 (bb_md 118).1 ∈ bb_TB := bb_tb (i := 610) (by decide +kernel) rfl
theorem wd_483 : Cond.methodLink RX6 231 (bb_md 119).1 ∈ bb_TB := bb_tb (i := 614) (by decide +kernel) rfl
theorem wd_484 : Cond.methodLink RX6 234 (bb_md 28).1 ∈ bb_TB := bb_tb (i := 382) (by decide +kernel) rfl
theorem wd_485 : Cond.fieldLink RX6 50 "BeachBars" (TX6 8).2.1 (TX6 8).2.2.1 ∈ bb_TB := bb_tb (i := 222) (by decide +kernel) rfl
theorem wd_486 : Cond.methodLink RX6 237 (bb_md 129).1 ∈ bb_TB := bb_tb (i := 428) (by decide +kernel) rfl
theorem wd_487 : Cond.methodLink RX6 241 (bb_md 29).1 ∈ bb_TB := bb_tb (i := 386) (by decide +kernel) rfl
theorem wd_488 : Cond.methodLink RX6 244 (bb_md 123).1 ∈ bb_TB := bb_tb (i := 441) (by decide +kernel) rfl
theorem wd_489 : Cond.methodLink RX6 247 (bb_md 125).1 ∈ bb_TB := bb_tb (i := 471) (by decide +kernel) rfl
theorem wd_490 : Cond.fieldLink RX7 13 "BeachBarsModel" (TX7 1).2.1 (TX7 1).2.2.1 ∈ bb_TB := bb_tb (i := 625) (by decide +kernel) rfl
theorem wd_491 : Cond.fieldLink RX7 7 "BeachBarsModel" (TX7 0).2.1 (TX7 0).2.2.1 ∈ bb_TB := bb_tb (i := 624) (by decide +kernel) rfl
theorem wd_492 : Cond.fieldLink RX7 37 "BeachBarsModel" (TX7 3).2.1 (TX7 3).2.2.1 ∈ bb_TB := bb_tb (i := 627) (by decide +kernel) rfl
theorem wd_493 : Cond.fieldLink RX7 16 "BeachBarsModel" (TX7 2).2.1 (TX7 2).2.2.1 ∈ bb_TB := bb_tb (i := 626) (by decide +kernel) rfl
theorem wd_494 : Cond.constantLong RX7 41 (3) ∈ bb_TB := bb_tb (i := 680) (by decide +kernel) rfl
theorem wd_495 : Cond.methodLink RX7 43 (bb_md 0).1 ∈ bb_TB := bb_tb (i := 681) (by decide +kernel) rfl
theorem wd_496 : Cond.constantLong RX7 47 (19) ∈ bb_TB := bb_tb (i := 687) (by decide +kernel) rfl
theorem wd_497 : Cond.fieldLink RX7 49 "BeachBarsModel" (TX7 6).2.1 (TX7 6).2.2.1 ∈ bb_TB := bb_tb (i := 630) (by decide +kernel) rfl
theorem wd_498 : Cond.methodLink RX7 52 (bb_md 35).1 ∈ bb_TB := bb_tb (i := 689) (by decide +kernel) rfl
theorem wd_499 : Cond.methodLink RX7 56 (bb_md 36).1 ∈ bb_TB := bb_tb (i := 760) (by decide +kernel) rfl
theorem wd_500 : Cond.constantLong RX7 59 (18) ∈ bb_TB := bb_tb (i := 776) (by decide +kernel) rfl
theorem wd_501 : Cond.methodLink RX7 61 (bb_md 37).1 ∈ bb_TB := bb_tb (i := 756) (by decide +kernel) rfl
theorem wd_502 : Cond.methodLink RX7 65 (bb_md 33).1 ∈ bb_TB := bb_tb (i := 677) (by decide +kernel) rfl
theorem wd_503 : Cond.methodLink RX7 69 (bb_md 38).1 ∈ bb_TB := bb_tb (i := 777) (by decide +kernel) rfl
theorem wd_504 : Cond.methodLink RX7 72 (bb_md 39).1 ∈ bb_TB := bb_tb (i := 781) (by decide +kernel) rfl
theorem wd_505 : Cond.fieldLink RX7 22 "BeachBarsModel" (TX7 7).2.1 (TX7 7).2.2.1 ∈ bb_TB := bb_tb (i := 631) (by decide +kernel) rfl
theorem wd_506 : Cond.methodLink RX7 76 (bb_md 41).1 ∈ bb_TB := bb_tb (i := 764) (by decide +kernel) rfl
theorem wd_507 : Cond.fieldLink RX7 25 "BeachBarsModel" (TX7 8).2.1 (TX7 8).2.2.1 ∈ bb_TB := bb_tb (i := 632) (by decide +kernel) rfl
theorem wd_508 : Cond.methodLink RX7 80 (bb_md 43).1 ∈ bb_TB := bb_tb (i := 748) (by decide +kernel) rfl
theorem wd_509 : Cond.methodLink RX7 83 (bb_md 44).1 ∈ bb_TB := bb_tb (i := 744) (by decide +kernel) rfl
theorem wd_510 : Cond.methodLink RX7 86 (bb_md 42).1 ∈ bb_TB := bb_tb (i := 752) (by decide +kernel) rfl
theorem wd_511 : Cond.fieldLink RX7 28 "BeachBarsModel" (TX7 9).2.1 (TX7 9).2.2.1 ∈ bb_TB := bb_tb (i := 633) (by decide +kernel) rfl
theorem wd_512 : Cond.methodLink RX7 90 (bb_md 40).1 ∈ bb_TB := bb_tb (i := 772) (by decide +kernel) rfl
theorem wd_513 : Cond.methodLink RX7 93 (bb_md 34).1 ∈ bb_TB := bb_tb (i := 684) (by decide +kernel) rfl
theorem wd_514 : Cond.constantLong RX7 96 (99) ∈ bb_TB := bb_tb (i := 688) (by decide +kernel) rfl
theorem wd_515 : Cond.methodLink RX7 98 (bb_md 31).1 ∈ bb_TB := bb_tb (i := 693) (by decide +kernel) rfl
theorem wd_516 : Cond.methodLink RX7 101 (bb_md 32).1 ∈ bb_TB := bb_tb (i := 697) (by decide +kernel) rfl
theorem wd_517 : Cond.constantLong RX7 105 (20) ∈ bb_TB := bb_tb (i := 705) (by decide +kernel) rfl
theorem wd_518 : Cond.constantLong RX7 107 (70) ∈ bb_TB := bb_tb (i := 706) (by decide +kernel) rfl
theorem wd_519 : Cond.methodLink RX7 109 (bb_md 49).1 ∈ bb_TB := bb_tb (i := 707) (by decide +kernel) rfl
theorem wd_520 : Cond.constantLong RX7 112 (2) ∈ bb_TB := bb_tb (i := 718) (by decide +kernel) rfl
theorem wd_521 : Cond.constantLong RX7 114 (4) ∈ bb_TB := bb_tb (i := 719) (by decide +kernel) rfl
theorem wd_522 : Cond.constantLong RX7 116 (30) ∈ bb_TB := bb_tb (i := 720) (by decide +kernel) rfl
theorem wd_523 : Cond.methodLink RX7 118 (bb_md 51).1 ∈ bb_TB := bb_tb (i := 715) (by decide +kernel) rfl
theorem wd_524 : Cond.methodLink RX7 121 (bb_md 53).1 ∈ bb_TB := bb_tb (i := 725) (by decide +kernel) rfl
theorem wd_525 : Cond.methodLink RX7 124 (bb_md 54).1 ∈ bb_TB := bb_tb (i := 728) (by decide +kernel) rfl
theorem wd_526 : Cond.methodLink RX7 127 (bb_md 45).1 ∈ bb_TB := bb_tb (i := 740) (by decide +kernel) rfl
theorem wd_527 : Cond.methodLink RX7 131 (bb_md 46).1 ∈ bb_TB := bb_tb (i := 768) (by decide +kernel) rfl
theorem wd_528 : Cond.methodLink RX7 134 (bb_md 47).1 ∈ bb_TB := bb_tb (i := 785) (by decide +kernel) rfl
theorem wd_529 : Cond.fieldLink RX7 137 "BeachBarsModel" (TX7 11).2.1 (TX7 11).2.2.1 ∈ bb_TB := bb_tb (i := 635) (by decide +kernel) rfl
theorem wd_530 : Cond.fieldLink RX7 31 "BeachBarsModel" (TX7 10).2.1 (TX7 10).2.2.1 ∈ bb_TB := bb_tb (i := 634) (by decide +kernel) rfl
theorem wd_531 : Cond.fieldLink RX7 140 "BeachBarsModel" (TX7 12).2.1 (TX7 12).2.2.1 ∈ bb_TB := bb_tb (i := 636) (by decide +kernel) rfl
theorem wd_532 : Cond.methodLink RX7 143 (bb_md 61).1 ∈ bb_TB := bb_tb (i := 817) (by decide +kernel) rfl
theorem wd_533 : Cond.fieldLink RX7 34 "BeachBarsModel" (TX7 13).2.1 (TX7 13).2.2.1 ∈ bb_TB := bb_tb (i := 637) (by decide +kernel) rfl
theorem wd_534 : Cond.fieldLink RX7 146 "BeachBarsModel" (TX7 14).2.1 (TX7 14).2.2.1 ∈ bb_TB := bb_tb (i := 638) (by decide +kernel) rfl
theorem wd_535 : Cond.methodLink RX7 149 (bb_md 63).1 ∈ bb_TB := bb_tb (i := 813) (by decide +kernel) rfl
theorem wd_536 : Cond.methodLink RX7 152 (bb_md 62).1 ∈ bb_TB := bb_tb (i := 821) (by decide +kernel) rfl
theorem wd_537 : Cond.fieldLink RX7 155 "BeachBarsModel" (TX7 15).2.1 (TX7 15).2.2.1 ∈ bb_TB := bb_tb (i := 639) (by decide +kernel) rfl
theorem wd_538 : Cond.methodLink RX7 158 (bb_md 64).1 ∈ bb_TB := bb_tb (i := 809) (by decide +kernel) rfl
theorem wd_539 : Cond.methodLink RX7 162 (bb_md 65).1 ∈ bb_TB := bb_tb (i := 805) (by decide +kernel) rfl
theorem wd_540 : Cond.fieldLink RX7 19 "BeachBarsModel" (TX7 4).2.1 (TX7 4).2.2.1 ∈ bb_TB := bb_tb (i := 628) (by decide +kernel) rfl
theorem wd_541 : Cond.fieldLink RX7 165 "BeachBarsModel" (TX7 5).2.1 (TX7 5).2.2.1 ∈ bb_TB := bb_tb (i := 629) (by decide +kernel) rfl
theorem wd_542 : Cond.methodLink RX7 168 (bb_md 68).1 ∈ bb_TB := bb_tb (i := 833) (by decide +kernel) rfl
theorem wd_543 : Cond.methodLink RX7 171 (bb_md 72).1 ∈ bb_TB := bb_tb (i := 849) (by decide +kernel) rfl
theorem wd_544 : Cond.methodLink RX7 174 (bb_md 73).1 ∈ bb_TB := bb_tb (i := 853) (by decide +kernel) rfl
theorem wd_545 : Cond.methodLink RX7 178 (bb_md 74).1 ∈ bb_TB := bb_tb (i := 857) (by decide +kernel) rfl
theorem wd_546 : Cond.methodLink RX7 181 (bb_md 75).1 ∈ bb_TB := bb_tb (i := 860) (by decide +kernel) rfl
theorem wd_547 : Cond.methodLink RX7 184 (bb_md 76).1 ∈ bb_TB := bb_tb (i := 864) (by decide +kernel) rfl
theorem wd_548 : Cond.methodLink RX7 187 (bb_md 77).1 ∈ bb_TB := bb_tb (i := 868) (by decide +kernel) rfl
theorem wd_549 : Cond.constantLong RX7 190 (6) ∈ bb_TB := bb_tb (i := 880) (by decide +kernel) rfl
theorem wd_550 : Cond.constantLong RX7 192 (8) ∈ bb_TB := bb_tb (i := 893) (by decide +kernel) rfl
theorem wd_551 : Cond.constantLong RX7 194 (11) ∈ bb_TB := bb_tb (i := 894) (by decide +kernel) rfl
theorem wd_552 : Cond.constantLong RX7 196 (14) ∈ bb_TB := bb_tb (i := 895) (by decide +kernel) rfl
theorem wd_553 : Cond.methodLink RX7 198 (bb_md 83).1 ∈ bb_TB := bb_tb (i := 896) (by decide +kernel) rfl
theorem wd_554 : Cond.methodLink RX7 202 (bb_md 84).1 ∈ bb_TB := bb_tb (i := 900) (by decide +kernel) rfl
theorem wd_555 : Cond.fieldLink RX0 18 "BeachBars$History" (TX0 2).2.1 (TX0 2).2.2.1 ∈ bb_TB := bb_tb (i := 154) (by decide +kernel) rfl
theorem wd_556 : Cond.fieldLink RX0 11 "BeachBars$History" (TX0 0).2.1 (TX0 0).2.2.1 ∈ bb_TB := bb_tb (i := 152) (by decide +kernel) rfl
theorem wd_557 : Cond.fieldLink RX0 22 "BeachBars$History" (TX0 1).2.1 (TX0 1).2.2.1 ∈ bb_TB := bb_tb (i := 153) (by decide +kernel) rfl
theorem wd_558 : Cond.methodLink RX0 25 (bb_md 128).1 ∈ bb_TB := bb_tb (i := 260) (by decide +kernel) rfl
theorem wd_559 : Cond.methodLink RX0 29 Lib.Math.min.name ∈ bb_TB := bb_tb (i := 274) (by decide +kernel) rfl
theorem wd_560 : Cond.static Lib.Math.min.name ∈ bb_TB := bb_tb (i := 275) (by decide +kernel) rfl
theorem wd_561 : Cond.initialized "java/lang/Math" ∈ bb_TB := bb_tb (i := 60) (by decide +kernel) rfl
theorem wd_562 : Cond.code Lib.Math.min.name Lib.Math.min.code 2 (some .int) ∈ bb_TB := bb_tb (i := 276) (by decide +kernel) rfl
theorem wd_563 : Cond.fieldLink RX1 9 "BeachBars$Queue" (TX1 0).2.1 (TX1 0).2.2.1 ∈ bb_TB := bb_tb (i := 99) (by decide +kernel) rfl
theorem wd_564 : Cond.methodLink RX1 18 arraycopyName ∈ bb_TB := bb_tb (i := 273) (by decide +kernel) rfl
theorem wd_565 : Cond.native arraycopyName ∈ bb_TB := bb_tb (i := 113) (by decide +kernel) rfl
theorem wd_566 : Cond.static arraycopyName ∈ bb_TB := bb_tb (i := 112) (by decide +kernel) rfl
theorem wd_567 : Cond.initialized "java/lang/System" ∈ bb_TB := bb_tb (i := 55) (by decide +kernel) rfl
theorem wd_568 : Cond.fieldLink RX1 15 "BeachBars$Queue" (TX1 1).2.1 (TX1 1).2.2.1 ∈ bb_TB := bb_tb (i := 100) (by decide +kernel) rfl
theorem wd_569 : Cond.fieldLink RX1 24 "BeachBars$Queue" (TX1 2).2.1 (TX1 2).2.2.1 ∈ bb_TB := bb_tb (i := 101) (by decide +kernel) rfl
theorem wd_570 : Cond.methodLink RX1 28 (bb_md 93).1 ∈ bb_TB := bb_tb (i := 361) (by decide +kernel) rfl
theorem wd_571 : Cond.fieldLink RX2 9 "BeachBars$Ride" (TX2 0).2.1 (TX2 0).2.2.1 ∈ bb_TB := bb_tb (i := 199) (by decide +kernel) rfl
theorem wd_572 : Cond.methodLink RX2 15 (bb_md 100).1 ∈ bb_TB := bb_tb (i := 406) (by decide +kernel) rfl
theorem wd_573 : Cond.methodLink RX2 19 (bb_md 105).1 ∈ bb_TB := bb_tb (i := 410) (by decide +kernel) rfl
theorem wd_574 : Cond.methodLink RX2 25 (bb_md 101).1 ∈ bb_TB := bb_tb (i := 411) (by decide +kernel) rfl
theorem wd_575 : Cond.methodLink RX2 28 (bb_md 102).1 ∈ bb_TB := bb_tb (i := 415) (by decide +kernel) rfl
theorem wd_576 : Cond.fieldLink RX2 32 "BeachBars$Ride" (TX2 1).2.1 (TX2 1).2.2.1 ∈ bb_TB := bb_tb (i := 202) (by decide +kernel) rfl
theorem wd_577 : Cond.fieldLink RX2 36 "BeachBars$Ride" (TX2 2).2.1 (TX2 2).2.2.1 ∈ bb_TB := bb_tb (i := 204) (by decide +kernel) rfl
theorem wd_578 : Cond.methodLink RX2 39 Lib.Math.min.name ∈ bb_TB := bb_tb (i := 419) (by decide +kernel) rfl
theorem wd_579 : Cond.methodLink RX2 44 (bb_md 103).1 ∈ bb_TB := bb_tb (i := 420) (by decide +kernel) rfl
theorem wd_580 : Cond.methodLink RX2 48 (bb_md 107).1 ∈ bb_TB := bb_tb (i := 424) (by decide +kernel) rfl
theorem wd_581 : Cond.fieldLink RX3 9 "BeachBars$Sand" (TX3 0).2.1 (TX3 0).2.2.1 ∈ bb_TB := bb_tb (i := 85) (by decide +kernel) rfl
theorem wd_582 : Cond.methodLink RX3 22 arraycopyName ∈ bb_TB := bb_tb (i := 268) (by decide +kernel) rfl
theorem wd_583 : Cond.methodLink RX3 28 (bb_md 105).1 ∈ bb_TB := bb_tb (i := 457) (by decide +kernel) rfl
theorem wd_584 : Cond.methodLink RX3 32 (bb_md 108).1 ∈ bb_TB := bb_tb (i := 530) (by decide +kernel) rfl
theorem wd_585 : Cond.methodLink RX3 35 (bb_md 111).1 ∈ bb_TB := bb_tb (i := 453) (by decide +kernel) rfl
theorem wd_586 : Cond.methodLink RX3 39 (bb_md 112).1 ∈ bb_TB := bb_tb (i := 458) (by decide +kernel) rfl
theorem wd_587 : Cond.methodLink RX3 42 (bb_md 114).1 ∈ bb_TB := bb_tb (i := 462) (by decide +kernel) rfl
theorem wd_588 : Cond.methodLink RX3 46 (bb_md 113).1 ∈ bb_TB := bb_tb (i := 449) (by decide +kernel) rfl
theorem wd_589 : Cond.methodLink RX3 49 (bb_md 115).1 ∈ bb_TB := bb_tb (i := 608) (by decide +kernel) rfl
theorem wd_590 : Cond.methodLink RX3 52 (bb_md 1).1 ∈ bb_TB := bb_tb (i := 609) (by decide +kernel) rfl
theorem wd_591 : Cond.methodLink RX3 57 (bb_md 116).1 ∈ bb_TB := bb_tb (i := 445) (by decide +kernel) rfl
theorem wd_592 : Cond.methodLink RX3 61 Lib.Math.abs.name ∈ bb_TB := bb_tb (i := 572) (by decide +kernel) rfl
theorem wd_593 : Cond.static Lib.Math.abs.name ∈ bb_TB := bb_tb (i := 573) (by decide +kernel) rfl
theorem wd_594 : Cond.code Lib.Math.abs.name Lib.Math.abs.code 1 (some .int) ∈ bb_TB := bb_tb (i := 574) (by decide +kernel) rfl
theorem wd_595 : Cond.methodLink RX3 66 Lib.Math.max.name ∈ bb_TB := bb_tb (i := 575) (by decide +kernel) rfl
theorem wd_596 : Cond.static Lib.Math.max.name ∈ bb_TB := bb_tb (i := 576) (by decide +kernel) rfl
theorem wd_597 : Cond.code Lib.Math.max.name Lib.Math.max.code 2 (some .int) ∈ bb_TB := bb_tb (i := 577) (by decide +kernel) rfl
theorem wd_598 : Cond.fieldLink RX3 15 "BeachBars$Sand" (TX3 1).2.1 (TX3 1).2.2.1 ∈ bb_TB := bb_tb (i := 86) (by decide +kernel) rfl
theorem wd_599 : Cond.methodLink RX3 69 (bb_md 124).1 ∈ bb_TB := bb_tb (i := 466) (by decide +kernel) rfl
theorem wd_600 : Cond.methodLink RX3 72 (bb_md 107).1 ∈ bb_TB := bb_tb (i := 470) (by decide +kernel) rfl
theorem wd_601 : Cond.methodLink RX3 76 (bb_md 126).1 ∈ bb_TB := bb_tb (i := 475) (by decide +kernel) rfl
theorem wd_602 : Cond.constant RX3 79 (1000000) ∈ bb_TB := bb_tb (i := 479) (by decide +kernel) rfl
theorem wd_603 : Cond.methodLink RX3 80 (bb_md 127).1 ∈ bb_TB := bb_tb (i := 480) (by decide +kernel) rfl
theorem wd_604 : Cond.fieldLink RX4 12 "BeachBars$State" (TX4 0).2.1 (TX4 0).2.2.1 ∈ bb_TB := bb_tb (i := 114) (by decide +kernel) rfl
theorem wd_605 : Cond.methodLink RX4 48 (bb_md 104).1 ∈ bb_TB := bb_tb (i := 264) (by decide +kernel) rfl
theorem wd_606 : Cond.fieldLink RX4 21 "BeachBars$State" (TX4 1).2.1 (TX4 1).2.2.1 ∈ bb_TB := bb_tb (i := 116) (by decide +kernel) rfl
theorem wd_607 : Cond.methodLink RX4 52 (bb_md 89).1 ∈ bb_TB := bb_tb (i := 269) (by decide +kernel) rfl
theorem wd_608 : Cond.fieldLink RX4 25 "BeachBars$State" (TX4 2).2.1 (TX4 2).2.2.1 ∈ bb_TB := bb_tb (i := 118) (by decide +kernel) rfl
theorem wd_609 : Cond.methodLink RX4 42 arraycopyName ∈ bb_TB := bb_tb (i := 111) (by decide +kernel) rfl
theorem wd_610 : Cond.fieldLink RX4 29 "BeachBars$State" (TX4 3).2.1 (TX4 3).2.2.1 ∈ bb_TB := bb_tb (i := 120) (by decide +kernel) rfl
theorem wd_611 : Cond.fieldLink RX4 32 "BeachBars$State" (TX4 4).2.1 (TX4 4).2.2.1 ∈ bb_TB := bb_tb (i := 122) (by decide +kernel) rfl
theorem wd_612 : Cond.fieldLink RX4 55 "BeachBars$State" (TX4 5).2.1 (TX4 5).2.2.1 ∈ bb_TB := bb_tb (i := 124) (by decide +kernel) rfl
theorem wd_613 : Cond.fieldLink RX4 35 "BeachBars$State" (TX4 6).2.1 (TX4 6).2.2.1 ∈ bb_TB := bb_tb (i := 126) (by decide +kernel) rfl
theorem wd_614 : Cond.methodLink RX4 69 (bb_md 98).1 ∈ bb_TB := bb_tb (i := 432) (by decide +kernel) rfl
theorem wd_615 : Cond.fieldLink RX5 22 "BeachBars$WaveText" (TX5 1).2.1 (TX5 1).2.2.1 ∈ bb_TB := bb_tb (i := 171) (by decide +kernel) rfl
theorem wd_616 : Cond.fieldLink RX5 9 "BeachBars$WaveText" (TX5 0).2.1 (TX5 0).2.2.1 ∈ bb_TB := bb_tb (i := 170) (by decide +kernel) rfl
theorem wd_617 : Cond.fieldLink RX5 26 "BeachBars$WaveText" (TX5 3).2.1 (TX5 3).2.2.1 ∈ bb_TB := bb_tb (i := 173) (by decide +kernel) rfl
theorem wd_618 : Cond.fieldLink RX5 18 "BeachBars$WaveText" (TX5 2).2.1 (TX5 2).2.2.1 ∈ bb_TB := bb_tb (i := 172) (by decide +kernel) rfl
theorem wd_619 : Cond.methodLink RX5 29 (bb_md 97).1 ∈ bb_TB := bb_tb (i := 316) (by decide +kernel) rfl
theorem wd_620 : Cond.methodLink RX5 32 (bb_md 136).1 ∈ bb_TB := bb_tb (i := 320) (by decide +kernel) rfl
theorem wd_621 : Cond.methodLink RX5 36 (bb_md 142).1 ∈ bb_TB := bb_tb (i := 340) (by decide +kernel) rfl
theorem wd_622 : Cond.methodLink RX5 39 (bb_md 137).1 ∈ bb_TB := bb_tb (i := 324) (by decide +kernel) rfl
theorem wd_623 : Cond.methodLink RX5 43 (bb_md 138).1 ∈ bb_TB := bb_tb (i := 328) (by decide +kernel) rfl
theorem wd_624 : Cond.methodLink RX5 46 (bb_md 139).1 ∈ bb_TB := bb_tb (i := 332) (by decide +kernel) rfl
theorem wd_625 : Cond.methodLink RX5 49 (bb_md 140).1 ∈ bb_TB := bb_tb (i := 345) (by decide +kernel) rfl
theorem wd_626 : Cond.methodLink RX5 52 (bb_md 141).1 ∈ bb_TB := bb_tb (i := 336) (by decide +kernel) rfl
theorem wd_627 : Cond.fieldLink RX5 55 "BeachBars$WaveText" (TX5 4).2.1 (TX5 4).2.2.1 ∈ bb_TB := bb_tb (i := 174) (by decide +kernel) rfl
theorem wd_628 : Cond.fieldLink RX5 58 "BeachBars$WaveText" (TX5 6).2.1 (TX5 6).2.2.1 ∈ bb_TB := bb_tb (i := 176) (by decide +kernel) rfl
theorem wd_629 : Cond.fieldLink RX5 61 "BeachBars$WaveText" (TX5 5).2.1 (TX5 5).2.2.1 ∈ bb_TB := bb_tb (i := 175) (by decide +kernel) rfl
theorem wd_630 : Cond.methodLink RX5 64 (bb_md 93).1 ∈ bb_TB := bb_tb (i := 344) (by decide +kernel) rfl
