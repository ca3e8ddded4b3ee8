-- ===== PART A: goes FIRST, ahead of the names: the tables' words, and 'selects' of the private methods out of them =====
/-- a private method of a class that the tables say can be made, by its rows of tables_1 -/
def lw_okq (q : MethodName × Nat) : Prop := (q.1.cls ≠ "java/lang/invoke/MethodHandle" ∧ q.1.cls ≠ "java/lang/invoke/VarHandle") ∧ Cond.instantiable q.1.cls q.2 ∈ tables_1 ∧ Cond.privateMethod q.1 ∈ tables_1 ∧ Cond.instanceMethod q.1 ∈ tables_1
theorem lw_p0 : lw_okq (⟨"BeachBars$WaveText", "after", "(IC)I"⟩, 7) := ⟨⟨by decide +kernel, by decide +kernel⟩, List.mem_of_getElem? (i := 113) (by decide +kernel), List.mem_of_getElem? (i := 271) (by decide +kernel), List.mem_of_getElem? (i := 272) (by decide +kernel)⟩
theorem lw_p1 : lw_okq (⟨"BeachBars$WaveText", "takeRow", "(C)I"⟩, 7) := ⟨⟨by decide +kernel, by decide +kernel⟩, List.mem_of_getElem? (i := 113) (by decide +kernel), List.mem_of_getElem? (i := 275) (by decide +kernel), List.mem_of_getElem? (i := 276) (by decide +kernel)⟩
theorem lw_p2 : lw_okq (⟨"BeachBars$WaveText", "takeHeight", "(C)I"⟩, 7) := ⟨⟨by decide +kernel, by decide +kernel⟩, List.mem_of_getElem? (i := 113) (by decide +kernel), List.mem_of_getElem? (i := 279) (by decide +kernel), List.mem_of_getElem? (i := 280) (by decide +kernel)⟩
theorem lw_p3 : lw_okq (⟨"BeachBars$WaveText", "goOnAfterHeight", "(C)I"⟩, 7) := ⟨⟨by decide +kernel, by decide +kernel⟩, List.mem_of_getElem? (i := 113) (by decide +kernel), List.mem_of_getElem? (i := 283) (by decide +kernel), List.mem_of_getElem? (i := 284) (by decide +kernel)⟩
theorem lw_p4 : lw_okq (⟨"BeachBars$WaveText", "goOnAfterGroup", "(C)I"⟩, 7) := ⟨⟨by decide +kernel, by decide +kernel⟩, List.mem_of_getElem? (i := 113) (by decide +kernel), List.mem_of_getElem? (i := 287) (by decide +kernel), List.mem_of_getElem? (i := 288) (by decide +kernel)⟩
theorem lw_p5 : lw_okq (⟨"BeachBars$WaveText", "endGroup", "()V"⟩, 7) := ⟨⟨by decide +kernel, by decide +kernel⟩, List.mem_of_getElem? (i := 113) (by decide +kernel), List.mem_of_getElem? (i := 291) (by decide +kernel), List.mem_of_getElem? (i := 292) (by decide +kernel)⟩
theorem lw_p6 : lw_okq (⟨"BeachBars$WaveText", "takeTimes", "(C)I"⟩, 7) := ⟨⟨by decide +kernel, by decide +kernel⟩, List.mem_of_getElem? (i := 113) (by decide +kernel), List.mem_of_getElem? (i := 296) (by decide +kernel), List.mem_of_getElem? (i := 297) (by decide +kernel)⟩
theorem lw_p7 : lw_okq (⟨"BeachBars", "runWaves", "(I)I"⟩, 9) := ⟨⟨by decide +kernel, by decide +kernel⟩, List.mem_of_getElem? (i := 13) (by decide +kernel), List.mem_of_getElem? (i := 329) (by decide +kernel), List.mem_of_getElem? (i := 330) (by decide +kernel)⟩
theorem lw_p8 : lw_okq (⟨"BeachBars", "sortWaves", "()V"⟩, 9) := ⟨⟨by decide +kernel, by decide +kernel⟩, List.mem_of_getElem? (i := 13) (by decide +kernel), List.mem_of_getElem? (i := 333) (by decide +kernel), List.mem_of_getElem? (i := 334) (by decide +kernel)⟩
theorem lw_p9 : lw_okq (⟨"BeachBars", "runsEarlier", "(II)Z"⟩, 9) := ⟨⟨by decide +kernel, by decide +kernel⟩, List.mem_of_getElem? (i := 13) (by decide +kernel), List.mem_of_getElem? (i := 337) (by decide +kernel), List.mem_of_getElem? (i := 338) (by decide +kernel)⟩
theorem lw_p10 : lw_okq (⟨"BeachBars", "goesSeaward", "(I)Z"⟩, 9) := ⟨⟨by decide +kernel, by decide +kernel⟩, List.mem_of_getElem? (i := 13) (by decide +kernel), List.mem_of_getElem? (i := 349) (by decide +kernel), List.mem_of_getElem? (i := 350) (by decide +kernel)⟩
theorem lw_p11 : lw_okq (⟨"BeachBars$Ride", "begin", "(II)V"⟩, 3) := ⟨⟨by decide +kernel, by decide +kernel⟩, List.mem_of_getElem? (i := 144) (by decide +kernel), List.mem_of_getElem? (i := 357) (by decide +kernel), List.mem_of_getElem? (i := 358) (by decide +kernel)⟩
theorem lw_p12 : lw_okq (⟨"BeachBars$Ride", "end", "(II)V"⟩, 3) := ⟨⟨by decide +kernel, by decide +kernel⟩, List.mem_of_getElem? (i := 144) (by decide +kernel), List.mem_of_getElem? (i := 362) (by decide +kernel), List.mem_of_getElem? (i := 363) (by decide +kernel)⟩
theorem lw_p13 : lw_okq (⟨"BeachBars$Ride", "breakAt", "(LBeachBars$Sand;IIZ)V"⟩, 3) := ⟨⟨by decide +kernel, by decide +kernel⟩, List.mem_of_getElem? (i := 144) (by decide +kernel), List.mem_of_getElem? (i := 366) (by decide +kernel), List.mem_of_getElem? (i := 367) (by decide +kernel)⟩
theorem lw_p14 : lw_okq (⟨"BeachBars$Ride", "give", "(LBeachBars$Sand;II)I"⟩, 3) := ⟨⟨by decide +kernel, by decide +kernel⟩, List.mem_of_getElem? (i := 144) (by decide +kernel), List.mem_of_getElem? (i := 371) (by decide +kernel), List.mem_of_getElem? (i := 372) (by decide +kernel)⟩
theorem lw_p15 : lw_okq (⟨"BeachBars", "letSandFollow", "(I)I"⟩, 9) := ⟨⟨by decide +kernel, by decide +kernel⟩, List.mem_of_getElem? (i := 13) (by decide +kernel), List.mem_of_getElem? (i := 388) (by decide +kernel), List.mem_of_getElem? (i := 389) (by decide +kernel)⟩
def lw_privs_1 : List (MethodName × Nat) := [(⟨"BeachBars$WaveText", "after", "(IC)I"⟩, 7), (⟨"BeachBars$WaveText", "takeRow", "(C)I"⟩, 7), (⟨"BeachBars$WaveText", "takeHeight", "(C)I"⟩, 7), (⟨"BeachBars$WaveText", "goOnAfterHeight", "(C)I"⟩, 7), (⟨"BeachBars$WaveText", "goOnAfterGroup", "(C)I"⟩, 7), (⟨"BeachBars$WaveText", "endGroup", "()V"⟩, 7), (⟨"BeachBars$WaveText", "takeTimes", "(C)I"⟩, 7), (⟨"BeachBars", "runWaves", "(I)I"⟩, 9), (⟨"BeachBars", "sortWaves", "()V"⟩, 9), (⟨"BeachBars", "runsEarlier", "(II)Z"⟩, 9), (⟨"BeachBars", "goesSeaward", "(I)Z"⟩, 9), (⟨"BeachBars$Ride", "begin", "(II)V"⟩, 3), (⟨"BeachBars$Ride", "end", "(II)V"⟩, 3), (⟨"BeachBars$Ride", "breakAt", "(LBeachBars$Sand;IIZ)V"⟩, 3), (⟨"BeachBars$Ride", "give", "(LBeachBars$Sand;II)I"⟩, 3), (⟨"BeachBars", "letSandFollow", "(I)I"⟩, 9)]
theorem lw_r1 : ∀ q ∈ lw_privs_1, lw_okq q := List.forall_mem_cons.mpr ⟨lw_p0, List.forall_mem_cons.mpr ⟨lw_p1, List.forall_mem_cons.mpr ⟨lw_p2, List.forall_mem_cons.mpr ⟨lw_p3, List.forall_mem_cons.mpr ⟨lw_p4, List.forall_mem_cons.mpr ⟨lw_p5, List.forall_mem_cons.mpr ⟨lw_p6, List.forall_mem_cons.mpr ⟨lw_p7, List.forall_mem_cons.mpr ⟨lw_p8, List.forall_mem_cons.mpr ⟨lw_p9, List.forall_mem_cons.mpr ⟨lw_p10, List.forall_mem_cons.mpr ⟨lw_p11, List.forall_mem_cons.mpr ⟨lw_p12, List.forall_mem_cons.mpr ⟨lw_p13, List.forall_mem_cons.mpr ⟨lw_p14, List.forall_mem_cons.mpr ⟨lw_p15, fun _ h => absurd h List.not_mem_nil⟩⟩⟩⟩⟩⟩⟩⟩⟩⟩⟩⟩⟩⟩⟩⟩
theorem lw_p16 : lw_okq (⟨"BeachBars$Sand", "isBarFrom", "(IIII)Z"⟩, 2) := ⟨⟨by decide +kernel, by decide +kernel⟩, List.mem_of_getElem? (i := 27) (by decide +kernel), List.mem_of_getElem? (i := 413) (by decide +kernel), List.mem_of_getElem? (i := 414) (by decide +kernel)⟩
theorem lw_p17 : lw_okq (⟨"BeachBars$Sand", "scourCell", "(II)I"⟩, 2) := ⟨⟨by decide +kernel, by decide +kernel⟩, List.mem_of_getElem? (i := 27) (by decide +kernel), List.mem_of_getElem? (i := 417) (by decide +kernel), List.mem_of_getElem? (i := 418) (by decide +kernel)⟩
theorem lw_p18 : lw_okq (⟨"BeachBars$Sand", "slumpRow", "(II)I"⟩, 2) := ⟨⟨by decide +kernel, by decide +kernel⟩, List.mem_of_getElem? (i := 27) (by decide +kernel), List.mem_of_getElem? (i := 426) (by decide +kernel), List.mem_of_getElem? (i := 427) (by decide +kernel)⟩
theorem lw_p19 : lw_okq (⟨"BeachBars$Sand", "slumpRowOnce", "(II)I"⟩, 2) := ⟨⟨by decide +kernel, by decide +kernel⟩, List.mem_of_getElem? (i := 27) (by decide +kernel), List.mem_of_getElem? (i := 431) (by decide +kernel), List.mem_of_getElem? (i := 432) (by decide +kernel)⟩
theorem lw_p20 : lw_okq (⟨"BeachBarsModel", "heightOf", "(II)I"⟩, 16) := ⟨⟨by decide +kernel, by decide +kernel⟩, List.mem_of_getElem? (i := 569) (by decide +kernel), List.mem_of_getElem? (i := 640) (by decide +kernel), List.mem_of_getElem? (i := 641) (by decide +kernel)⟩
theorem lw_p21 : lw_okq (⟨"BeachBarsModel", "remember", "()V"⟩, 16) := ⟨⟨by decide +kernel, by decide +kernel⟩, List.mem_of_getElem? (i := 569) (by decide +kernel), List.mem_of_getElem? (i := 644) (by decide +kernel), List.mem_of_getElem? (i := 645) (by decide +kernel)⟩
theorem lw_p22 : lw_okq (⟨"BeachBarsModel", "acted", "(I)I"⟩, 16) := ⟨⟨by decide +kernel, by decide +kernel⟩, List.mem_of_getElem? (i := 569) (by decide +kernel), List.mem_of_getElem? (i := 648) (by decide +kernel), List.mem_of_getElem? (i := 649) (by decide +kernel)⟩
theorem lw_p23 : lw_okq (⟨"BeachBarsModel", "sets", "(II)I"⟩, 16) := ⟨⟨by decide +kernel, by decide +kernel⟩, List.mem_of_getElem? (i := 569) (by decide +kernel), List.mem_of_getElem? (i := 658) (by decide +kernel), List.mem_of_getElem? (i := 659) (by decide +kernel)⟩
theorem lw_p24 : lw_okq (⟨"BeachBarsModel", "puts", "(II)V"⟩, 16) := ⟨⟨by decide +kernel, by decide +kernel⟩, List.mem_of_getElem? (i := 569) (by decide +kernel), List.mem_of_getElem? (i := 679) (by decide +kernel), List.mem_of_getElem? (i := 680) (by decide +kernel)⟩
theorem lw_p25 : lw_okq (⟨"BeachBarsModel", "allRun", "()I"⟩, 16) := ⟨⟨by decide +kernel, by decide +kernel⟩, List.mem_of_getElem? (i := 569) (by decide +kernel), List.mem_of_getElem? (i := 691) (by decide +kernel), List.mem_of_getElem? (i := 692) (by decide +kernel)⟩
theorem lw_p26 : lw_okq (⟨"BeachBarsModel", "sorts", "()V"⟩, 16) := ⟨⟨by decide +kernel, by decide +kernel⟩, List.mem_of_getElem? (i := 569) (by decide +kernel), List.mem_of_getElem? (i := 695) (by decide +kernel), List.mem_of_getElem? (i := 696) (by decide +kernel)⟩
theorem lw_p27 : lw_okq (⟨"BeachBarsModel", "runsAhead", "(II)Z"⟩, 16) := ⟨⟨by decide +kernel, by decide +kernel⟩, List.mem_of_getElem? (i := 569) (by decide +kernel), List.mem_of_getElem? (i := 699) (by decide +kernel), List.mem_of_getElem? (i := 700) (by decide +kernel)⟩
theorem lw_p28 : lw_okq (⟨"BeachBarsModel", "runs", "(II)V"⟩, 16) := ⟨⟨by decide +kernel, by decide +kernel⟩, List.mem_of_getElem? (i := 569) (by decide +kernel), List.mem_of_getElem? (i := 703) (by decide +kernel), List.mem_of_getElem? (i := 704) (by decide +kernel)⟩
theorem lw_p29 : lw_okq (⟨"BeachBarsModel", "isDry", "(II)Z"⟩, 16) := ⟨⟨by decide +kernel, by decide +kernel⟩, List.mem_of_getElem? (i := 569) (by decide +kernel), List.mem_of_getElem? (i := 707) (by decide +kernel), List.mem_of_getElem? (i := 708) (by decide +kernel)⟩
theorem lw_p30 : lw_okq (⟨"BeachBarsModel", "depth", "(II)I"⟩, 16) := ⟨⟨by decide +kernel, by decide +kernel⟩, List.mem_of_getElem? (i := 569) (by decide +kernel), List.mem_of_getElem? (i := 711) (by decide +kernel), List.mem_of_getElem? (i := 712) (by decide +kernel)⟩
theorem lw_p31 : lw_okq (⟨"BeachBarsModel", "moves", "(IIII)I"⟩, 16) := ⟨⟨by decide +kernel, by decide +kernel⟩, List.mem_of_getElem? (i := 569) (by decide +kernel), List.mem_of_getElem? (i := 715) (by decide +kernel), List.mem_of_getElem? (i := 716) (by decide +kernel)⟩
def lw_privs_2 : List (MethodName × Nat) := [(⟨"BeachBars$Sand", "isBarFrom", "(IIII)Z"⟩, 2), (⟨"BeachBars$Sand", "scourCell", "(II)I"⟩, 2), (⟨"BeachBars$Sand", "slumpRow", "(II)I"⟩, 2), (⟨"BeachBars$Sand", "slumpRowOnce", "(II)I"⟩, 2), (⟨"BeachBarsModel", "heightOf", "(II)I"⟩, 16), (⟨"BeachBarsModel", "remember", "()V"⟩, 16), (⟨"BeachBarsModel", "acted", "(I)I"⟩, 16), (⟨"BeachBarsModel", "sets", "(II)I"⟩, 16), (⟨"BeachBarsModel", "puts", "(II)V"⟩, 16), (⟨"BeachBarsModel", "allRun", "()I"⟩, 16), (⟨"BeachBarsModel", "sorts", "()V"⟩, 16), (⟨"BeachBarsModel", "runsAhead", "(II)Z"⟩, 16), (⟨"BeachBarsModel", "runs", "(II)V"⟩, 16), (⟨"BeachBarsModel", "isDry", "(II)Z"⟩, 16), (⟨"BeachBarsModel", "depth", "(II)I"⟩, 16), (⟨"BeachBarsModel", "moves", "(IIII)I"⟩, 16)]
theorem lw_r2 : ∀ q ∈ lw_privs_2, lw_okq q := List.forall_mem_cons.mpr ⟨lw_p16, List.forall_mem_cons.mpr ⟨lw_p17, List.forall_mem_cons.mpr ⟨lw_p18, List.forall_mem_cons.mpr ⟨lw_p19, List.forall_mem_cons.mpr ⟨lw_p20, List.forall_mem_cons.mpr ⟨lw_p21, List.forall_mem_cons.mpr ⟨lw_p22, List.forall_mem_cons.mpr ⟨lw_p23, List.forall_mem_cons.mpr ⟨lw_p24, List.forall_mem_cons.mpr ⟨lw_p25, List.forall_mem_cons.mpr ⟨lw_p26, List.forall_mem_cons.mpr ⟨lw_p27, List.forall_mem_cons.mpr ⟨lw_p28, List.forall_mem_cons.mpr ⟨lw_p29, List.forall_mem_cons.mpr ⟨lw_p30, List.forall_mem_cons.mpr ⟨lw_p31, fun _ h => absurd h List.not_mem_nil⟩⟩⟩⟩⟩⟩⟩⟩⟩⟩⟩⟩⟩⟩⟩⟩
theorem lw_p32 : lw_okq (⟨"BeachBarsModel", "scours", "()I"⟩, 16) := ⟨⟨by decide +kernel, by decide +kernel⟩, List.mem_of_getElem? (i := 569) (by decide +kernel), List.mem_of_getElem? (i := 719) (by decide +kernel), List.mem_of_getElem? (i := 720) (by decide +kernel)⟩
theorem lw_p33 : lw_okq (⟨"BeachBarsModel", "isGap", "(II)Z"⟩, 16) := ⟨⟨by decide +kernel, by decide +kernel⟩, List.mem_of_getElem? (i := 569) (by decide +kernel), List.mem_of_getElem? (i := 723) (by decide +kernel), List.mem_of_getElem? (i := 724) (by decide +kernel)⟩
theorem lw_p34 : lw_okq (⟨"BeachBarsModel", "isBar", "(II)Z"⟩, 16) := ⟨⟨by decide +kernel, by decide +kernel⟩, List.mem_of_getElem? (i := 569) (by decide +kernel), List.mem_of_getElem? (i := 728) (by decide +kernel), List.mem_of_getElem? (i := 729) (by decide +kernel)⟩
theorem lw_p35 : lw_okq (⟨"BeachBarsModel", "isBarAbove", "(III)Z"⟩, 16) := ⟨⟨by decide +kernel, by decide +kernel⟩, List.mem_of_getElem? (i := 569) (by decide +kernel), List.mem_of_getElem? (i := 732) (by decide +kernel), List.mem_of_getElem? (i := 733) (by decide +kernel)⟩
theorem lw_p36 : lw_okq (⟨"BeachBarsModel", "slumps", "()I"⟩, 16) := ⟨⟨by decide +kernel, by decide +kernel⟩, List.mem_of_getElem? (i := 569) (by decide +kernel), List.mem_of_getElem? (i := 736) (by decide +kernel), List.mem_of_getElem? (i := 737) (by decide +kernel)⟩
theorem lw_p37 : lw_okq (⟨"BeachBarsModel", "fault", "()I"⟩, 16) := ⟨⟨by decide +kernel, by decide +kernel⟩, List.mem_of_getElem? (i := 569) (by decide +kernel), List.mem_of_getElem? (i := 756) (by decide +kernel), List.mem_of_getElem? (i := 757) (by decide +kernel)⟩
theorem lw_p38 : lw_okq (⟨"BeachBarsModel", "readsGroup", "()Z"⟩, 16) := ⟨⟨by decide +kernel, by decide +kernel⟩, List.mem_of_getElem? (i := 569) (by decide +kernel), List.mem_of_getElem? (i := 760) (by decide +kernel), List.mem_of_getElem? (i := 761) (by decide +kernel)⟩
theorem lw_p39 : lw_okq (⟨"BeachBarsModel", "readsDigit", "(III)Z"⟩, 16) := ⟨⟨by decide +kernel, by decide +kernel⟩, List.mem_of_getElem? (i := 569) (by decide +kernel), List.mem_of_getElem? (i := 764) (by decide +kernel), List.mem_of_getElem? (i := 765) (by decide +kernel)⟩
theorem lw_p40 : lw_okq (⟨"BeachBarsModel", "isHere", "(II)Z"⟩, 16) := ⟨⟨by decide +kernel, by decide +kernel⟩, List.mem_of_getElem? (i := 569) (by decide +kernel), List.mem_of_getElem? (i := 768) (by decide +kernel), List.mem_of_getElem? (i := 769) (by decide +kernel)⟩
theorem lw_p41 : lw_okq (⟨"BeachBarsModel", "takes", "(I)Z"⟩, 16) := ⟨⟨by decide +kernel, by decide +kernel⟩, List.mem_of_getElem? (i := 569) (by decide +kernel), List.mem_of_getElem? (i := 772) (by decide +kernel), List.mem_of_getElem? (i := 773) (by decide +kernel)⟩
theorem lw_p42 : lw_okq (⟨"BeachBarsModel", "sandOf", "(II)I"⟩, 16) := ⟨⟨by decide +kernel, by decide +kernel⟩, List.mem_of_getElem? (i := 569) (by decide +kernel), List.mem_of_getElem? (i := 784) (by decide +kernel), List.mem_of_getElem? (i := 785) (by decide +kernel)⟩
theorem lw_p43 : lw_okq (⟨"BeachBarsModel", "sandIn", "(I)I"⟩, 16) := ⟨⟨by decide +kernel, by decide +kernel⟩, List.mem_of_getElem? (i := 569) (by decide +kernel), List.mem_of_getElem? (i := 800) (by decide +kernel), List.mem_of_getElem? (i := 801) (by decide +kernel)⟩
theorem lw_p44 : lw_okq (⟨"BeachBarsModel", "bitsOf", "(IZ)I"⟩, 16) := ⟨⟨by decide +kernel, by decide +kernel⟩, List.mem_of_getElem? (i := 569) (by decide +kernel), List.mem_of_getElem? (i := 804) (by decide +kernel), List.mem_of_getElem? (i := 805) (by decide +kernel)⟩
theorem lw_p45 : lw_okq (⟨"BeachBarsModel", "lastDry", "(I)I"⟩, 16) := ⟨⟨by decide +kernel, by decide +kernel⟩, List.mem_of_getElem? (i := 569) (by decide +kernel), List.mem_of_getElem? (i := 811) (by decide +kernel), List.mem_of_getElem? (i := 812) (by decide +kernel)⟩
theorem lw_p46 : lw_okq (⟨"BeachBarsModel", "steepest", "(I)I"⟩, 16) := ⟨⟨by decide +kernel, by decide +kernel⟩, List.mem_of_getElem? (i := 569) (by decide +kernel), List.mem_of_getElem? (i := 815) (by decide +kernel), List.mem_of_getElem? (i := 816) (by decide +kernel)⟩
theorem lw_p47 : lw_okq (⟨"BeachBarsModel", "highestBar", "(I)I"⟩, 16) := ⟨⟨by decide +kernel, by decide +kernel⟩, List.mem_of_getElem? (i := 569) (by decide +kernel), List.mem_of_getElem? (i := 819) (by decide +kernel), List.mem_of_getElem? (i := 820) (by decide +kernel)⟩
def lw_privs_3 : List (MethodName × Nat) := [(⟨"BeachBarsModel", "scours", "()I"⟩, 16), (⟨"BeachBarsModel", "isGap", "(II)Z"⟩, 16), (⟨"BeachBarsModel", "isBar", "(II)Z"⟩, 16), (⟨"BeachBarsModel", "isBarAbove", "(III)Z"⟩, 16), (⟨"BeachBarsModel", "slumps", "()I"⟩, 16), (⟨"BeachBarsModel", "fault", "()I"⟩, 16), (⟨"BeachBarsModel", "readsGroup", "()Z"⟩, 16), (⟨"BeachBarsModel", "readsDigit", "(III)Z"⟩, 16), (⟨"BeachBarsModel", "isHere", "(II)Z"⟩, 16), (⟨"BeachBarsModel", "takes", "(I)Z"⟩, 16), (⟨"BeachBarsModel", "sandOf", "(II)I"⟩, 16), (⟨"BeachBarsModel", "sandIn", "(I)I"⟩, 16), (⟨"BeachBarsModel", "bitsOf", "(IZ)I"⟩, 16), (⟨"BeachBarsModel", "lastDry", "(I)I"⟩, 16), (⟨"BeachBarsModel", "steepest", "(I)I"⟩, 16), (⟨"BeachBarsModel", "highestBar", "(I)I"⟩, 16)]
theorem lw_r3 : ∀ q ∈ lw_privs_3, lw_okq q := List.forall_mem_cons.mpr ⟨lw_p32, List.forall_mem_cons.mpr ⟨lw_p33, List.forall_mem_cons.mpr ⟨lw_p34, List.forall_mem_cons.mpr ⟨lw_p35, List.forall_mem_cons.mpr ⟨lw_p36, List.forall_mem_cons.mpr ⟨lw_p37, List.forall_mem_cons.mpr ⟨lw_p38, List.forall_mem_cons.mpr ⟨lw_p39, List.forall_mem_cons.mpr ⟨lw_p40, List.forall_mem_cons.mpr ⟨lw_p41, List.forall_mem_cons.mpr ⟨lw_p42, List.forall_mem_cons.mpr ⟨lw_p43, List.forall_mem_cons.mpr ⟨lw_p44, List.forall_mem_cons.mpr ⟨lw_p45, List.forall_mem_cons.mpr ⟨lw_p46, List.forall_mem_cons.mpr ⟨lw_p47, fun _ h => absurd h List.not_mem_nil⟩⟩⟩⟩⟩⟩⟩⟩⟩⟩⟩⟩⟩⟩⟩⟩
theorem lw_p48 : lw_okq (⟨"BeachBarsModel", "allMany", "(Z)I"⟩, 16) := ⟨⟨by decide +kernel, by decide +kernel⟩, List.mem_of_getElem? (i := 569) (by decide +kernel), List.mem_of_getElem? (i := 847) (by decide +kernel), List.mem_of_getElem? (i := 848) (by decide +kernel)⟩
theorem lw_p49 : lw_okq (⟨"BeachBarsModel", "dryCells", "()I"⟩, 16) := ⟨⟨by decide +kernel, by decide +kernel⟩, List.mem_of_getElem? (i := 569) (by decide +kernel), List.mem_of_getElem? (i := 851) (by decide +kernel), List.mem_of_getElem? (i := 852) (by decide +kernel)⟩
def lw_privs_4 : List (MethodName × Nat) := [(⟨"BeachBarsModel", "allMany", "(Z)I"⟩, 16), (⟨"BeachBarsModel", "dryCells", "()I"⟩, 16)]
theorem lw_r4 : ∀ q ∈ lw_privs_4, lw_okq q := List.forall_mem_cons.mpr ⟨lw_p48, List.forall_mem_cons.mpr ⟨lw_p49, fun _ h => absurd h List.not_mem_nil⟩⟩
def lw_privs : List (MethodName × Nat) := lw_privs_1 ++ (lw_privs_2 ++ (lw_privs_3 ++ (lw_privs_4)))
def lw_tbl : List Cond := k2_sels lw_privs ++ tables_1
theorem lw_privs_ok : ∀ q ∈ lw_privs, lw_okq q := by
  show ∀ q ∈ lw_privs_1 ++ (lw_privs_2 ++ (lw_privs_3 ++ (lw_privs_4))), lw_okq q
  exact List.forall_mem_append.mpr ⟨lw_r1, List.forall_mem_append.mpr ⟨lw_r2, List.forall_mem_append.mpr ⟨lw_r3, lw_r4⟩⟩⟩
theorem goodIn_r {big : List Cond} (ws : List Cond) (ps : List Nat) (hp : ws = ps.filterMap (fun i => big[i]?)) (h : ws.all goodWord = true) : GoodIn big ws := by
  intro w hw
  have h1 := List.all_eq_true.mp h w hw
  rw [hp] at hw
  obtain ⟨i, -, hi⟩ := List.mem_filterMap.mp hw
  have hm : w ∈ big := by first | exact List.mem_of_getElem? hi | exact List.getElem?_mem hi
  exact ⟨hm, good_of_word h1⟩
def RX0 : String := "BeachBars$History"
def TX0 : u_T := fun k => match k with
  | 0 => ("BeachBars$History", "states", "[LBeachBars$State;", true)
  | 1 => ("BeachBars$History", "next", "I", false)
  | _ => ("BeachBars$History", "size", "I", false)
def tyX0 : Nat → FieldType := fun k => match k with
  | 0 => .array (.object "BeachBars$State")
  | 1 => .int
  | _ => .int
abbrev wsX00 : List Cond := u_ws RX0 TX0 3
theorem nmX0 : ∀ a, a < 3 → ∀ b, b < 3 → a ≠ b → (TX0 a).2.1 ≠ (TX0 b).2.1 := by decide +kernel
theorem tyX0_ok : ∀ k, k < 3 → parseFieldDescriptor (TX0 k).2.2.1 = some (tyX0 k) := by decide +kernel
abbrev cX0_init : ByteArray := prog_2_method_1_code
def yX0_init : MethodName := ⟨RX0, "<init>", "()V"⟩
abbrev cX0_size : ByteArray := prog_2_method_2_code
def yX0_size : MethodName := ⟨RX0, "size", "()I"⟩
abbrev cX0_record : ByteArray := prog_2_method_3_code
def yX0_record : MethodName := ⟨RX0, "record", "(LBeachBars$State;)V"⟩
abbrev cX0_takeBack : ByteArray := prog_2_method_4_code
def yX0_takeBack : MethodName := ⟨RX0, "takeBack", "(LBeachBars$State;)V"⟩
def RX1 : String := "BeachBars$Queue"
def TX1 : u_T := fun k => match k with
  | 0 => ("BeachBars$Queue", "rows", "[I", true)
  | 1 => ("BeachBars$Queue", "heights", "[I", true)
  | _ => ("BeachBars$Queue", "size", "I", false)
def tyX1 : Nat → FieldType := fun k => match k with
  | 0 => .array .int
  | 1 => .array .int
  | _ => .int
abbrev wsX10 : List Cond := u_ws RX1 TX1 3
theorem nmX1 : ∀ a, a < 3 → ∀ b, b < 3 → a ≠ b → (TX1 a).2.1 ≠ (TX1 b).2.1 := by decide +kernel
theorem tyX1_ok : ∀ k, k < 3 → parseFieldDescriptor (TX1 k).2.2.1 = some (tyX1 k) := by decide +kernel
abbrev cX1_init : ByteArray := prog_3_method_1_code
def yX1_init : MethodName := ⟨RX1, "<init>", "()V"⟩
abbrev cX1_copyFrom : ByteArray := prog_3_method_2_code
def yX1_copyFrom : MethodName := ⟨RX1, "copyFrom", "(LBeachBars$Queue;)V"⟩
abbrev cX1_size : ByteArray := prog_3_method_3_code
def yX1_size : MethodName := ⟨RX1, "size", "()I"⟩
abbrev cX1_rowOf : ByteArray := prog_3_method_4_code
def yX1_rowOf : MethodName := ⟨RX1, "rowOf", "(I)I"⟩
abbrev cX1_heightOf : ByteArray := prog_3_method_5_code
def yX1_heightOf : MethodName := ⟨RX1, "heightOf", "(I)I"⟩
abbrev cX1_add : ByteArray := prog_3_method_6_code
def yX1_add : MethodName := ⟨RX1, "add", "(II)V"⟩
abbrev cX1_addAll : ByteArray := prog_3_method_7_code
def yX1_addAll : MethodName := ⟨RX1, "addAll", "(LBeachBars$Queue;)V"⟩
abbrev cX1_hasBetween : ByteArray := prog_3_method_8_code
def yX1_hasBetween : MethodName := ⟨RX1, "hasBetween", "(II)Z"⟩
abbrev cX1_removeBetween : ByteArray := prog_3_method_9_code
def yX1_removeBetween : MethodName := ⟨RX1, "removeBetween", "(II)I"⟩
abbrev cX1_removeAll : ByteArray := prog_3_method_10_code
def yX1_removeAll : MethodName := ⟨RX1, "removeAll", "()V"⟩
def RX2 : String := "BeachBars$Ride"
def TX2 : u_T := fun k => match k with
  | 0 => ("BeachBars$Ride", "facts", "[I", true)
  | 1 => ("BeachBars$Ride", "toTheDeep", "I", false)
  | _ => ("BeachBars$Ride", "toTheDune", "I", false)
def tyX2 : Nat → FieldType := fun k => match k with
  | 0 => .array .int
  | 1 => .int
  | _ => .int
abbrev wsX20 : List Cond := u_ws RX2 TX2 3
theorem nmX2 : ∀ a, a < 3 → ∀ b, b < 3 → a ≠ b → (TX2 a).2.1 ≠ (TX2 b).2.1 := by decide +kernel
theorem tyX2_ok : ∀ k, k < 3 → parseFieldDescriptor (TX2 k).2.2.1 = some (tyX2 k) := by decide +kernel
abbrev cX2_init : ByteArray := prog_4_method_1_code
def yX2_init : MethodName := ⟨RX2, "<init>", "()V"⟩
abbrev cX2_fact : ByteArray := prog_4_method_2_code
def yX2_fact : MethodName := ⟨RX2, "fact", "(I)I"⟩
abbrev cX2_go : ByteArray := prog_4_method_3_code
def yX2_go : MethodName := ⟨RX2, "go", "(LBeachBars$Sand;IIIZ)V"⟩
abbrev cX2_begin : ByteArray := prog_4_method_4_code
def yX2_begin : MethodName := ⟨RX2, "begin", "(II)V"⟩
abbrev cX2_end : ByteArray := prog_4_method_5_code
def yX2_end : MethodName := ⟨RX2, "end", "(II)V"⟩
abbrev cX2_breakAt : ByteArray := prog_4_method_6_code
def yX2_breakAt : MethodName := ⟨RX2, "breakAt", "(LBeachBars$Sand;IIZ)V"⟩
abbrev cX2_give : ByteArray := prog_4_method_7_code
def yX2_give : MethodName := ⟨RX2, "give", "(LBeachBars$Sand;II)I"⟩
def RX3 : String := "BeachBars$Sand"
def TX3 : u_T := fun k => match k with
  | 0 => ("BeachBars$Sand", "heights", "[I", true)
  | _ => ("BeachBars$Sand", "gapsFound", "[I", true)
def tyX3 : Nat → FieldType := fun k => match k with
  | 0 => .array .int
  | _ => .array .int
abbrev wsX30 : List Cond := u_ws RX3 TX3 2
theorem nmX3 : ∀ a, a < 2 → ∀ b, b < 2 → a ≠ b → (TX3 a).2.1 ≠ (TX3 b).2.1 := by decide +kernel
theorem tyX3_ok : ∀ k, k < 2 → parseFieldDescriptor (TX3 k).2.2.1 = some (tyX3 k) := by decide +kernel
abbrev cX3_init : ByteArray := prog_5_method_1_code
def yX3_init : MethodName := ⟨RX3, "<init>", "()V"⟩
abbrev cX3_copyFrom : ByteArray := prog_5_method_2_code
def yX3_copyFrom : MethodName := ⟨RX3, "copyFrom", "(LBeachBars$Sand;)V"⟩
abbrev cX3_heightAt : ByteArray := prog_5_method_3_code
def yX3_heightAt : MethodName := ⟨RX3, "heightAt", "(II)I"⟩
abbrev cX3_setHeight : ByteArray := prog_5_method_4_code
def yX3_setHeight : MethodName := ⟨RX3, "setHeight", "(III)V"⟩
abbrev cX3_addTo : ByteArray := prog_5_method_5_code
def yX3_addTo : MethodName := ⟨RX3, "addTo", "(III)V"⟩
abbrev cX3_between : ByteArray := prog_5_method_6_code
def yX3_between : MethodName := ⟨RX3, "between", "(II)I"⟩
abbrev cX3_all : ByteArray := prog_5_method_7_code
def yX3_all : MethodName := ⟨RX3, "all", "()I"⟩
abbrev cX3_inRow : ByteArray := prog_5_method_8_code
def yX3_inRow : MethodName := ⟨RX3, "inRow", "(I)I"⟩
abbrev cX3_isDry : ByteArray := prog_5_method_9_code
def yX3_isDry : MethodName := ⟨RX3, "isDry", "(III)Z"⟩
abbrev cX3_isBar : ByteArray := prog_5_method_10_code
def yX3_isBar : MethodName := ⟨RX3, "isBar", "(III)Z"⟩
abbrev cX3_isGap : ByteArray := prog_5_method_11_code
def yX3_isGap : MethodName := ⟨RX3, "isGap", "(IIII)Z"⟩
abbrev cX3_isBarFrom : ByteArray := prog_5_method_12_code
def yX3_isBarFrom : MethodName := ⟨RX3, "isBarFrom", "(IIII)Z"⟩
abbrev cX3_bars : ByteArray := prog_5_method_13_code
def yX3_bars : MethodName := ⟨RX3, "bars", "(II)I"⟩
abbrev cX3_gaps : ByteArray := prog_5_method_14_code
def yX3_gaps : MethodName := ⟨RX3, "gaps", "(III)I"⟩
abbrev cX3_allBars : ByteArray := prog_5_method_15_code
def yX3_allBars : MethodName := ⟨RX3, "allBars", "(I)I"⟩
abbrev cX3_allGaps : ByteArray := prog_5_method_16_code
def yX3_allGaps : MethodName := ⟨RX3, "allGaps", "(II)I"⟩
abbrev cX3_allDry : ByteArray := prog_5_method_17_code
def yX3_allDry : MethodName := ⟨RX3, "allDry", "(I)I"⟩
abbrev cX3_lastDry : ByteArray := prog_5_method_18_code
def yX3_lastDry : MethodName := ⟨RX3, "lastDry", "(II)I"⟩
abbrev cX3_greatestDifference : ByteArray := prog_5_method_19_code
def yX3_greatestDifference : MethodName := ⟨RX3, "greatestDifference", "(I)I"⟩
abbrev cX3_highestBar : ByteArray := prog_5_method_20_code
def yX3_highestBar : MethodName := ⟨RX3, "highestBar", "(II)I"⟩
abbrev cX3_scour : ByteArray := prog_5_method_21_code
def yX3_scour : MethodName := ⟨RX3, "scour", "(II)I"⟩
abbrev cX3_scourCell : ByteArray := prog_5_method_22_code
def yX3_scourCell : MethodName := ⟨RX3, "scourCell", "(II)I"⟩
abbrev cX3_slump : ByteArray := prog_5_method_23_code
def yX3_slump : MethodName := ⟨RX3, "slump", "(I)I"⟩
abbrev cX3_slumpRow : ByteArray := prog_5_method_24_code
def yX3_slumpRow : MethodName := ⟨RX3, "slumpRow", "(II)I"⟩
abbrev cX3_slumpRowOnce : ByteArray := prog_5_method_25_code
def yX3_slumpRowOnce : MethodName := ⟨RX3, "slumpRowOnce", "(II)I"⟩
def RX4 : String := "BeachBars$State"
def TX4 : u_T := fun k => match k with
  | 0 => ("BeachBars$State", "beach", "LBeachBars$Sand;", true)
  | 1 => ("BeachBars$State", "queue", "LBeachBars$Queue;", true)
  | 2 => ("BeachBars$State", "settings", "[I", true)
  | 3 => ("BeachBars$State", "totals", "[I", true)
  | 4 => ("BeachBars$State", "tales", "[I", true)
  | 5 => ("BeachBars$State", "told", "I", false)
  | _ => ("BeachBars$State", "level", "I", false)
def tyX4 : Nat → FieldType := fun k => match k with
  | 0 => .object "BeachBars$Sand"
  | 1 => .object "BeachBars$Queue"
  | 2 => .array .int
  | 3 => .array .int
  | 4 => .array .int
  | 5 => .int
  | _ => .int
abbrev wsX40 : List Cond := u_ws RX4 TX4 7
theorem nmX4 : ∀ a, a < 7 → ∀ b, b < 7 → a ≠ b → (TX4 a).2.1 ≠ (TX4 b).2.1 := by decide +kernel
theorem tyX4_ok : ∀ k, k < 7 → parseFieldDescriptor (TX4 k).2.2.1 = some (tyX4 k) := by decide +kernel
abbrev cX4_init : ByteArray := prog_6_method_1_code
def yX4_init : MethodName := ⟨RX4, "<init>", "()V"⟩
abbrev cX4_copyFrom : ByteArray := prog_6_method_2_code
def yX4_copyFrom : MethodName := ⟨RX4, "copyFrom", "(LBeachBars$State;)V"⟩
abbrev cX4_takeOver : ByteArray := prog_6_method_3_code
def yX4_takeOver : MethodName := ⟨RX4, "takeOver", "(LBeachBars$Ride;I)V"⟩
def RX5 : String := "BeachBars$WaveText"
def TX5 : u_T := fun k => match k with
  | 0 => ("BeachBars$WaveText", "signs", "[C", true)
  | 1 => ("BeachBars$WaveText", "length", "I", false)
  | 2 => ("BeachBars$WaveText", "found", "LBeachBars$Queue;", true)
  | 3 => ("BeachBars$WaveText", "waves", "I", false)
  | 4 => ("BeachBars$WaveText", "row", "I", false)
  | 5 => ("BeachBars$WaveText", "height", "I", false)
  | _ => ("BeachBars$WaveText", "times", "I", false)
def tyX5 : Nat → FieldType := fun k => match k with
  | 0 => .array .char
  | 1 => .int
  | 2 => .object "BeachBars$Queue"
  | 3 => .int
  | 4 => .int
  | 5 => .int
  | _ => .int
abbrev wsX50 : List Cond := u_ws RX5 TX5 7
theorem nmX5 : ∀ a, a < 7 → ∀ b, b < 7 → a ≠ b → (TX5 a).2.1 ≠ (TX5 b).2.1 := by decide +kernel
theorem tyX5_ok : ∀ k, k < 7 → parseFieldDescriptor (TX5 k).2.2.1 = some (tyX5 k) := by decide +kernel
abbrev cX5_init : ByteArray := prog_7_method_1_code
def yX5_init : MethodName := ⟨RX5, "<init>", "()V"⟩
abbrev cX5_length : ByteArray := prog_7_method_2_code
def yX5_length : MethodName := ⟨RX5, "length", "()I"⟩
abbrev cX5_add : ByteArray := prog_7_method_3_code
def yX5_add : MethodName := ⟨RX5, "add", "(C)V"⟩
abbrev cX5_empty : ByteArray := prog_7_method_4_code
def yX5_empty : MethodName := ⟨RX5, "empty", "()V"⟩
abbrev cX5_waves : ByteArray := prog_7_method_5_code
def yX5_waves : MethodName := ⟨RX5, "waves", "()I"⟩
abbrev cX5_queue : ByteArray := prog_7_method_6_code
def yX5_queue : MethodName := ⟨RX5, "queue", "()LBeachBars$Queue;"⟩
abbrev cX5_read : ByteArray := prog_7_method_7_code
def yX5_read : MethodName := ⟨RX5, "read", "()I"⟩
abbrev cX5_after : ByteArray := prog_7_method_8_code
def yX5_after : MethodName := ⟨RX5, "after", "(IC)I"⟩
abbrev cX5_takeRow : ByteArray := prog_7_method_9_code
def yX5_takeRow : MethodName := ⟨RX5, "takeRow", "(C)I"⟩
abbrev cX5_takeHeight : ByteArray := prog_7_method_10_code
def yX5_takeHeight : MethodName := ⟨RX5, "takeHeight", "(C)I"⟩
abbrev cX5_goOnAfterHeight : ByteArray := prog_7_method_11_code
def yX5_goOnAfterHeight : MethodName := ⟨RX5, "goOnAfterHeight", "(C)I"⟩
abbrev cX5_takeTimes : ByteArray := prog_7_method_12_code
def yX5_takeTimes : MethodName := ⟨RX5, "takeTimes", "(C)I"⟩
abbrev cX5_goOnAfterGroup : ByteArray := prog_7_method_13_code
def yX5_goOnAfterGroup : MethodName := ⟨RX5, "goOnAfterGroup", "(C)I"⟩
abbrev cX5_endGroup : ByteArray := prog_7_method_14_code
def yX5_endGroup : MethodName := ⟨RX5, "endGroup", "()V"⟩
def RX6 : String := "BeachBars"
def TX6 : u_T := fun k => match k with
  | 0 => ("BeachBars", "now", "LBeachBars$State;", true)
  | 1 => ("BeachBars", "before", "LBeachBars$State;", true)
  | 2 => ("BeachBars", "snapshot", "LBeachBars$State;", true)
  | 3 => ("BeachBars", "hasSnapshot", "Z", false)
  | 4 => ("BeachBars", "history", "LBeachBars$History;", true)
  | 5 => ("BeachBars", "text", "LBeachBars$WaveText;", true)
  | 6 => ("BeachBars", "ride", "LBeachBars$Ride;", true)
  | 7 => ("BeachBars", "trial", "LBeachBars$Sand;", true)
  | _ => ("BeachBars", "order", "[I", true)
def tyX6 : Nat → FieldType := fun k => match k with
  | 0 => .object "BeachBars$State"
  | 1 => .object "BeachBars$State"
  | 2 => .object "BeachBars$State"
  | 3 => .boolean
  | 4 => .object "BeachBars$History"
  | 5 => .object "BeachBars$WaveText"
  | 6 => .object "BeachBars$Ride"
  | 7 => .object "BeachBars$Sand"
  | _ => .array .int
abbrev wsX60 : List Cond := u_ws RX6 TX6 9
theorem nmX6 : ∀ a, a < 9 → ∀ b, b < 9 → a ≠ b → (TX6 a).2.1 ≠ (TX6 b).2.1 := by decide +kernel
theorem tyX6_ok : ∀ k, k < 9 → parseFieldDescriptor (TX6 k).2.2.1 = some (tyX6 k) := by decide +kernel
abbrev cX6_init : ByteArray := prog_1_method_1_code
def yX6_init : MethodName := ⟨RX6, "<init>", "()V"⟩
abbrev cX6_dump : ByteArray := prog_1_method_2_code
def yX6_dump : MethodName := ⟨RX6, "dump", "(III)I"⟩
abbrev cX6_setLevel : ByteArray := prog_1_method_3_code
def yX6_setLevel : MethodName := ⟨RX6, "setLevel", "(I)I"⟩
abbrev cX6_set : ByteArray := prog_1_method_4_code
def yX6_set : MethodName := ⟨RX6, "set", "(II)I"⟩
abbrev cX6_wave : ByteArray := prog_1_method_5_code
def yX6_wave : MethodName := ⟨RX6, "wave", "(II)I"⟩
abbrev cX6_waveAll : ByteArray := prog_1_method_6_code
def yX6_waveAll : MethodName := ⟨RX6, "waveAll", "()I"⟩
abbrev cX6_strike : ByteArray := prog_1_method_7_code
def yX6_strike : MethodName := ⟨RX6, "strike", "(II)I"⟩
abbrev cX6_run : ByteArray := prog_1_method_8_code
def yX6_run : MethodName := ⟨RX6, "run", "(I)I"⟩
abbrev cX6_settle : ByteArray := prog_1_method_9_code
def yX6_settle : MethodName := ⟨RX6, "settle", "()I"⟩
abbrev cX6_type : ByteArray := prog_1_method_10_code
def yX6_type : MethodName := ⟨RX6, "type", "(C)I"⟩
abbrev cX6_clearText : ByteArray := prog_1_method_11_code
def yX6_clearText : MethodName := ⟨RX6, "clearText", "()I"⟩
abbrev cX6_undo : ByteArray := prog_1_method_12_code
def yX6_undo : MethodName := ⟨RX6, "undo", "()I"⟩
abbrev cX6_keep : ByteArray := prog_1_method_13_code
def yX6_keep : MethodName := ⟨RX6, "keep", "()I"⟩
abbrev cX6_restore : ByteArray := prog_1_method_14_code
def yX6_restore : MethodName := ⟨RX6, "restore", "()I"⟩
abbrev cX6_cell : ByteArray := prog_1_method_15_code
def yX6_cell : MethodName := ⟨RX6, "cell", "(III)I"⟩
abbrev cX6_row : ByteArray := prog_1_method_16_code
def yX6_row : MethodName := ⟨RX6, "row", "(II)I"⟩
abbrev cX6_waiting : ByteArray := prog_1_method_17_code
def yX6_waiting : MethodName := ⟨RX6, "waiting", "(IZ)I"⟩
abbrev cX6_ended : ByteArray := prog_1_method_18_code
def yX6_ended : MethodName := ⟨RX6, "ended", "(II)I"⟩
abbrev cX6_would : ByteArray := prog_1_method_19_code
def yX6_would : MethodName := ⟨RX6, "would", "(III)I"⟩
abbrev cX6_sand : ByteArray := prog_1_method_20_code
def yX6_sand : MethodName := ⟨RX6, "sand", "(II)I"⟩
abbrev cX6_count : ByteArray := prog_1_method_21_code
def yX6_count : MethodName := ⟨RX6, "count", "(I)I"⟩
abbrev cX6_isRow : ByteArray := prog_1_method_22_code
def yX6_isRow : MethodName := ⟨RX6, "isRow", "(I)Z"⟩
abbrev cX6_isCell : ByteArray := prog_1_method_23_code
def yX6_isCell : MethodName := ⟨RX6, "isCell", "(I)Z"⟩
abbrev cX6_isWaveHeight : ByteArray := prog_1_method_24_code
def yX6_isWaveHeight : MethodName := ⟨RX6, "isWaveHeight", "(I)Z"⟩
abbrev cX6_firstHeight : ByteArray := prog_1_method_25_code
def yX6_firstHeight : MethodName := ⟨RX6, "firstHeight", "(I)I"⟩
abbrev cX6_goesSeaward : ByteArray := prog_1_method_26_code
def yX6_goesSeaward : MethodName := ⟨RX6, "goesSeaward", "(I)Z"⟩
abbrev cX6_runWaves : ByteArray := prog_1_method_27_code
def yX6_runWaves : MethodName := ⟨RX6, "runWaves", "(I)I"⟩
abbrev cX6_sortWaves : ByteArray := prog_1_method_28_code
def yX6_sortWaves : MethodName := ⟨RX6, "sortWaves", "()V"⟩
abbrev cX6_runsEarlier : ByteArray := prog_1_method_29_code
def yX6_runsEarlier : MethodName := ⟨RX6, "runsEarlier", "(II)Z"⟩
abbrev cX6_letSandFollow : ByteArray := prog_1_method_30_code
def yX6_letSandFollow : MethodName := ⟨RX6, "letSandFollow", "(I)I"⟩
def RX7 : String := "BeachBarsModel"
def TX7 : u_T := fun k => match k with
  | 0 => ("BeachBarsModel", "all", "[I", true)
  | 1 => ("BeachBarsModel", "kept", "[I", true)
  | 2 => ("BeachBarsModel", "history", "[I", true)
  | 3 => ("BeachBarsModel", "historyLong", "I", false)
  | 4 => ("BeachBarsModel", "snapshot", "[I", true)
  | 5 => ("BeachBarsModel", "isTaken", "I", false)
  | 6 => ("BeachBarsModel", "surge", "I", false)
  | 7 => ("BeachBarsModel", "did", "[I", true)
  | 8 => ("BeachBarsModel", "order", "[I", true)
  | 9 => ("BeachBarsModel", "isGapNow", "[I", true)
  | 10 => ("BeachBarsModel", "text", "[I", true)
  | 11 => ("BeachBarsModel", "textLong", "I", false)
  | 12 => ("BeachBarsModel", "spot", "I", false)
  | 13 => ("BeachBarsModel", "read", "[I", true)
  | 14 => ("BeachBarsModel", "groups", "I", false)
  | _ => ("BeachBarsModel", "readWaves", "I", false)
def tyX7 : Nat → FieldType := fun k => match k with
  | 0 => .array .int
  | 1 => .array .int
  | 2 => .array .int
  | 3 => .int
  | 4 => .array .int
  | 5 => .int
  | 6 => .int
  | 7 => .array .int
  | 8 => .array .int
  | 9 => .array .int
  | 10 => .array .int
  | 11 => .int
  | 12 => .int
  | 13 => .array .int
  | 14 => .int
  | _ => .int
abbrev wsX70 : List Cond := u_ws RX7 TX7 16
theorem nmX7 : ∀ a, a < 16 → ∀ b, b < 16 → a ≠ b → (TX7 a).2.1 ≠ (TX7 b).2.1 := by decide +kernel
theorem tyX7_ok : ∀ k, k < 16 → parseFieldDescriptor (TX7 k).2.2.1 = some (tyX7 k) := by decide +kernel
abbrev cX7_init : ByteArray := prog_9_method_1_code
def yX7_init : MethodName := ⟨RX7, "<init>", "()V"⟩
abbrev cX7_in : ByteArray := prog_9_method_3_code
def yX7_in : MethodName := ⟨RX7, "in", "(JJJ)Z"⟩
abbrev cX7_remember : ByteArray := prog_9_method_4_code
def yX7_remember : MethodName := ⟨RX7, "remember", "()V"⟩
abbrev cX7_acted : ByteArray := prog_9_method_5_code
def yX7_acted : MethodName := ⟨RX7, "acted", "(I)I"⟩
abbrev cX7_isRow : ByteArray := prog_9_method_6_code
def yX7_isRow : MethodName := ⟨RX7, "isRow", "(I)Z"⟩
abbrev cX7_isCell : ByteArray := prog_9_method_7_code
def yX7_isCell : MethodName := ⟨RX7, "isCell", "(I)Z"⟩
abbrev cX7_heightOf : ByteArray := prog_9_method_8_code
def yX7_heightOf : MethodName := ⟨RX7, "heightOf", "(II)I"⟩
abbrev cX7_depth : ByteArray := prog_9_method_9_code
def yX7_depth : MethodName := ⟨RX7, "depth", "(II)I"⟩
abbrev cX7_isDry : ByteArray := prog_9_method_10_code
def yX7_isDry : MethodName := ⟨RX7, "isDry", "(II)Z"⟩
abbrev cX7_isBar : ByteArray := prog_9_method_11_code
def yX7_isBar : MethodName := ⟨RX7, "isBar", "(II)Z"⟩
abbrev cX7_isBarAbove : ByteArray := prog_9_method_12_code
def yX7_isBarAbove : MethodName := ⟨RX7, "isBarAbove", "(III)Z"⟩
abbrev cX7_isGap : ByteArray := prog_9_method_13_code
def yX7_isGap : MethodName := ⟨RX7, "isGap", "(II)Z"⟩
abbrev cX7_moves : ByteArray := prog_9_method_14_code
def yX7_moves : MethodName := ⟨RX7, "moves", "(IIII)I"⟩
abbrev cX7_runs : ByteArray := prog_9_method_15_code
def yX7_runs : MethodName := ⟨RX7, "runs", "(II)V"⟩
abbrev cX7_runsAhead : ByteArray := prog_9_method_16_code
def yX7_runsAhead : MethodName := ⟨RX7, "runsAhead", "(II)Z"⟩
abbrev cX7_sorts : ByteArray := prog_9_method_17_code
def yX7_sorts : MethodName := ⟨RX7, "sorts", "()V"⟩
abbrev cX7_allRun : ByteArray := prog_9_method_18_code
def yX7_allRun : MethodName := ⟨RX7, "allRun", "()I"⟩
abbrev cX7_scours : ByteArray := prog_9_method_19_code
def yX7_scours : MethodName := ⟨RX7, "scours", "()I"⟩
abbrev cX7_slumps : ByteArray := prog_9_method_20_code
def yX7_slumps : MethodName := ⟨RX7, "slumps", "()I"⟩
abbrev cX7_dump : ByteArray := prog_9_method_21_code
def yX7_dump : MethodName := ⟨RX7, "dump", "(III)I"⟩
abbrev cX7_sets : ByteArray := prog_9_method_22_code
def yX7_sets : MethodName := ⟨RX7, "sets", "(II)I"⟩
abbrev cX7_setLevel : ByteArray := prog_9_method_23_code
def yX7_setLevel : MethodName := ⟨RX7, "setLevel", "(I)I"⟩
abbrev cX7_isSetting : ByteArray := prog_9_method_24_code
def yX7_isSetting : MethodName := ⟨RX7, "isSetting", "(II)Z"⟩
abbrev cX7_set : ByteArray := prog_9_method_25_code
def yX7_set : MethodName := ⟨RX7, "set", "(II)I"⟩
abbrev cX7_isHeight : ByteArray := prog_9_method_26_code
def yX7_isHeight : MethodName := ⟨RX7, "isHeight", "(I)Z"⟩
abbrev cX7_puts : ByteArray := prog_9_method_27_code
def yX7_puts : MethodName := ⟨RX7, "puts", "(II)V"⟩
abbrev cX7_wave : ByteArray := prog_9_method_28_code
def yX7_wave : MethodName := ⟨RX7, "wave", "(II)I"⟩
abbrev cX7_strike : ByteArray := prog_9_method_29_code
def yX7_strike : MethodName := ⟨RX7, "strike", "(II)I"⟩
abbrev cX7_run : ByteArray := prog_9_method_30_code
def yX7_run : MethodName := ⟨RX7, "run", "(I)I"⟩
abbrev cX7_settle : ByteArray := prog_9_method_31_code
def yX7_settle : MethodName := ⟨RX7, "settle", "()I"⟩
abbrev cX7_type : ByteArray := prog_9_method_32_code
def yX7_type : MethodName := ⟨RX7, "type", "(C)I"⟩
abbrev cX7_clearText : ByteArray := prog_9_method_33_code
def yX7_clearText : MethodName := ⟨RX7, "clearText", "()I"⟩
abbrev cX7_isHere : ByteArray := prog_9_method_34_code
def yX7_isHere : MethodName := ⟨RX7, "isHere", "(II)Z"⟩
abbrev cX7_takes : ByteArray := prog_9_method_35_code
def yX7_takes : MethodName := ⟨RX7, "takes", "(I)Z"⟩
abbrev cX7_readsDigit : ByteArray := prog_9_method_36_code
def yX7_readsDigit : MethodName := ⟨RX7, "readsDigit", "(III)Z"⟩
abbrev cX7_readsGroup : ByteArray := prog_9_method_37_code
def yX7_readsGroup : MethodName := ⟨RX7, "readsGroup", "()Z"⟩
abbrev cX7_fault : ByteArray := prog_9_method_38_code
def yX7_fault : MethodName := ⟨RX7, "fault", "()I"⟩
abbrev cX7_waveAll : ByteArray := prog_9_method_39_code
def yX7_waveAll : MethodName := ⟨RX7, "waveAll", "()I"⟩
abbrev cX7_undo : ByteArray := prog_9_method_40_code
def yX7_undo : MethodName := ⟨RX7, "undo", "()I"⟩
abbrev cX7_sandOf : ByteArray := prog_9_method_41_code
def yX7_sandOf : MethodName := ⟨RX7, "sandOf", "(II)I"⟩
abbrev cX7_keep : ByteArray := prog_9_method_42_code
def yX7_keep : MethodName := ⟨RX7, "keep", "()I"⟩
abbrev cX7_restore : ByteArray := prog_9_method_43_code
def yX7_restore : MethodName := ⟨RX7, "restore", "()I"⟩
abbrev cX7_cell : ByteArray := prog_9_method_44_code
def yX7_cell : MethodName := ⟨RX7, "cell", "(III)I"⟩
abbrev cX7_sandIn : ByteArray := prog_9_method_45_code
def yX7_sandIn : MethodName := ⟨RX7, "sandIn", "(I)I"⟩
abbrev cX7_bitsOf : ByteArray := prog_9_method_46_code
def yX7_bitsOf : MethodName := ⟨RX7, "bitsOf", "(IZ)I"⟩
abbrev cX7_many : ByteArray := prog_9_method_47_code
def yX7_many : MethodName := ⟨RX7, "many", "(I)I"⟩
abbrev cX7_lastDry : ByteArray := prog_9_method_48_code
def yX7_lastDry : MethodName := ⟨RX7, "lastDry", "(I)I"⟩
abbrev cX7_steepest : ByteArray := prog_9_method_49_code
def yX7_steepest : MethodName := ⟨RX7, "steepest", "(I)I"⟩
abbrev cX7_highestBar : ByteArray := prog_9_method_50_code
def yX7_highestBar : MethodName := ⟨RX7, "highestBar", "(I)I"⟩
abbrev cX7_row : ByteArray := prog_9_method_51_code
def yX7_row : MethodName := ⟨RX7, "row", "(II)I"⟩
abbrev cX7_waiting : ByteArray := prog_9_method_52_code
def yX7_waiting : MethodName := ⟨RX7, "waiting", "(IZ)I"⟩
abbrev cX7_ended : ByteArray := prog_9_method_53_code
def yX7_ended : MethodName := ⟨RX7, "ended", "(II)I"⟩
abbrev cX7_would : ByteArray := prog_9_method_54_code
def yX7_would : MethodName := ⟨RX7, "would", "(III)I"⟩
abbrev cX7_sand : ByteArray := prog_9_method_55_code
def yX7_sand : MethodName := ⟨RX7, "sand", "(II)I"⟩
abbrev cX7_allMany : ByteArray := prog_9_method_56_code
def yX7_allMany : MethodName := ⟨RX7, "allMany", "(Z)I"⟩
abbrev cX7_dryCells : ByteArray := prog_9_method_57_code
def yX7_dryCells : MethodName := ⟨RX7, "dryCells", "()I"⟩
abbrev cX7_count : ByteArray := prog_9_method_58_code
def yX7_count : MethodName := ⟨RX7, "count", "(I)I"⟩
def RJ6 : String := "java/lang/Integer"
def TJ6 : u_T := fun k => match k with
  | _ => ("", "", "", false)
def tyJ6 : Nat → FieldType := fun k => match k with
  | _ => .int
abbrev wsJ60 : List Cond := u_ws RJ6 TJ6 0
theorem nmJ6 : ∀ a, a < 0 → ∀ b, b < 0 → a ≠ b → (TJ6 a).2.1 ≠ (TJ6 b).2.1 := by decide +kernel
theorem tyJ6_ok : ∀ k, k < 0 → parseFieldDescriptor (TJ6 k).2.2.1 = some (tyJ6 k) := by decide +kernel
abbrev cJ6_bitCount_0f7a4 : ByteArray := prog_10_method_49_code
def yJ6_bitCount_0f7a4 : MethodName := ⟨RJ6, "bitCount", "(I)I"⟩
def RJ9 : String := "java/lang/Math"
def TJ9 : u_T := fun k => match k with
  | _ => ("", "", "", false)
def tyJ9 : Nat → FieldType := fun k => match k with
  | _ => .int
abbrev wsJ90 : List Cond := u_ws RJ9 TJ9 0
theorem nmJ9 : ∀ a, a < 0 → ∀ b, b < 0 → a ≠ b → (TJ9 a).2.1 ≠ (TJ9 b).2.1 := by decide +kernel
theorem tyJ9_ok : ∀ k, k < 0 → parseFieldDescriptor (TJ9 k).2.2.1 = some (tyJ9 k) := by decide +kernel
abbrev cJ9_abs_0f7a4 : ByteArray := prog_11_method_59_code
def yJ9_abs_0f7a4 : MethodName := ⟨RJ9, "abs", "(I)I"⟩
abbrev cJ9_max_7cf53 : ByteArray := prog_11_method_65_code
def yJ9_max_7cf53 : MethodName := ⟨RJ9, "max", "(II)I"⟩
abbrev cJ9_min_7cf53 : ByteArray := prog_11_method_69_code
def yJ9_min_7cf53 : MethodName := ⟨RJ9, "min", "(II)I"⟩
def RJ10 : String := "java/lang/System"
def TJ10 : u_T := fun k => match k with
  | _ => ("", "", "", false)
def tyJ10 : Nat → FieldType := fun k => match k with
  | _ => .int
abbrev wsJ100 : List Cond := u_ws RJ10 TJ10 0
theorem nmJ10 : ∀ a, a < 0 → ∀ b, b < 0 → a ≠ b → (TJ10 a).2.1 ≠ (TJ10 b).2.1 := by decide +kernel
theorem tyJ10_ok : ∀ k, k < 0 → parseFieldDescriptor (TJ10 k).2.2.1 = some (tyJ10 k) := by decide +kernel
def RL : String := "BeachBarsLaw"
abbrev cL_law : ByteArray := code
def yL_law : MethodName := ⟨RL, "law", "([I)Z"⟩
theorem dX0_init_0 : decode cX0_init 0 = .ok (.aload_n 0, 1) := by decide +kernel
theorem dX0_init_1 : decode cX0_init 1 = .ok (.invokespecial 3, 3) := by decide +kernel
theorem dX0_init_4 : decode cX0_init 4 = .ok (.aload_n 0, 1) := by decide +kernel
theorem dX0_init_5 : decode cX0_init 5 = .ok (.iconst 4, 1) := by decide +kernel
theorem dX0_init_6 : decode cX0_init 6 = .ok (.anewarray 9, 3) := by decide +kernel
theorem dX0_init_9 : decode cX0_init 9 = .ok (.putfield 11, 3) := by decide +kernel
theorem dX0_init_12 : decode cX0_init 12 = .ok (.iconst 0, 1) := by decide +kernel
theorem dX0_init_13 : decode cX0_init 13 = .ok (.istore_n 1, 1) := by decide +kernel
theorem dX0_init_14 : decode cX0_init 14 = .ok (.iload_n 1, 1) := by decide +kernel
theorem dX0_init_15 : decode cX0_init 15 = .ok (.iconst 4, 1) := by decide +kernel
theorem dX0_init_16 : decode cX0_init 16 = .ok (.if_icmp .ge 22, 3) := by decide +kernel
theorem dX0_init_19 : decode cX0_init 19 = .ok (.aload_n 0, 1) := by decide +kernel
theorem dX0_init_20 : decode cX0_init 20 = .ok (.getfield 11, 3) := by decide +kernel
theorem dX0_init_23 : decode cX0_init 23 = .ok (.iload_n 1, 1) := by decide +kernel
theorem dX0_init_24 : decode cX0_init 24 = .ok (.new 9, 3) := by decide +kernel
theorem dX0_init_27 : decode cX0_init 27 = .ok (.dup, 1) := by decide +kernel
theorem dX0_init_28 : decode cX0_init 28 = .ok (.invokespecial 17, 3) := by decide +kernel
theorem dX0_init_31 : decode cX0_init 31 = .ok (.aastore, 1) := by decide +kernel
theorem dX0_init_32 : decode cX0_init 32 = .ok (.iinc 1 1, 3) := by decide +kernel
theorem dX0_init_35 : decode cX0_init 35 = .ok (.goto (-21), 3) := by decide +kernel
theorem dX0_init_38 : decode cX0_init 38 = .ok (.return_, 1) := by decide +kernel
theorem dX0_size_0 : decode cX0_size 0 = .ok (.aload_n 0, 1) := by decide +kernel
theorem dX0_size_1 : decode cX0_size 1 = .ok (.getfield 18, 3) := by decide +kernel
theorem dX0_size_4 : decode cX0_size 4 = .ok (.ireturn, 1) := by decide +kernel
theorem dX0_record_0 : decode cX0_record 0 = .ok (.aload_n 0, 1) := by decide +kernel
theorem dX0_record_1 : decode cX0_record 1 = .ok (.getfield 11, 3) := by decide +kernel
theorem dX0_record_4 : decode cX0_record 4 = .ok (.aload_n 0, 1) := by decide +kernel
theorem dX0_record_5 : decode cX0_record 5 = .ok (.getfield 22, 3) := by decide +kernel
theorem dX0_record_8 : decode cX0_record 8 = .ok (.aaload, 1) := by decide +kernel
theorem dX0_record_9 : decode cX0_record 9 = .ok (.aload_n 1, 1) := by decide +kernel
theorem dX0_record_10 : decode cX0_record 10 = .ok (.invokevirtual 25, 3) := by decide +kernel
theorem dX0_record_13 : decode cX0_record 13 = .ok (.aload_n 0, 1) := by decide +kernel
theorem dX0_record_14 : decode cX0_record 14 = .ok (.aload_n 0, 1) := by decide +kernel
theorem dX0_record_15 : decode cX0_record 15 = .ok (.getfield 22, 3) := by decide +kernel
theorem dX0_record_18 : decode cX0_record 18 = .ok (.iconst 1, 1) := by decide +kernel
theorem dX0_record_19 : decode cX0_record 19 = .ok (.iadd, 1) := by decide +kernel
theorem dX0_record_20 : decode cX0_record 20 = .ok (.iconst 4, 1) := by decide +kernel
theorem dX0_record_21 : decode cX0_record 21 = .ok (.irem, 1) := by decide +kernel
theorem dX0_record_22 : decode cX0_record 22 = .ok (.putfield 22, 3) := by decide +kernel
theorem dX0_record_25 : decode cX0_record 25 = .ok (.aload_n 0, 1) := by decide +kernel
theorem dX0_record_26 : decode cX0_record 26 = .ok (.aload_n 0, 1) := by decide +kernel
theorem dX0_record_27 : decode cX0_record 27 = .ok (.getfield 18, 3) := by decide +kernel
theorem dX0_record_30 : decode cX0_record 30 = .ok (.iconst 1, 1) := by decide +kernel
theorem dX0_record_31 : decode cX0_record 31 = .ok (.iadd, 1) := by decide +kernel
theorem dX0_record_32 : decode cX0_record 32 = .ok (.iconst 4, 1) := by decide +kernel
theorem dX0_record_33 : decode cX0_record 33 = .ok (.invokestatic 29, 3) := by decide +kernel
theorem dX0_record_36 : decode cX0_record 36 = .ok (.putfield 18, 3) := by decide +kernel
theorem dX0_record_39 : decode cX0_record 39 = .ok (.return_, 1) := by decide +kernel
theorem dX0_takeBack_0 : decode cX0_takeBack 0 = .ok (.aload_n 0, 1) := by decide +kernel
theorem dX0_takeBack_1 : decode cX0_takeBack 1 = .ok (.aload_n 0, 1) := by decide +kernel
theorem dX0_takeBack_2 : decode cX0_takeBack 2 = .ok (.getfield 22, 3) := by decide +kernel
theorem dX0_takeBack_5 : decode cX0_takeBack 5 = .ok (.iconst 4, 1) := by decide +kernel
theorem dX0_takeBack_6 : decode cX0_takeBack 6 = .ok (.iadd, 1) := by decide +kernel
theorem dX0_takeBack_7 : decode cX0_takeBack 7 = .ok (.iconst 1, 1) := by decide +kernel
theorem dX0_takeBack_8 : decode cX0_takeBack 8 = .ok (.isub, 1) := by decide +kernel
theorem dX0_takeBack_9 : decode cX0_takeBack 9 = .ok (.iconst 4, 1) := by decide +kernel
theorem dX0_takeBack_10 : decode cX0_takeBack 10 = .ok (.irem, 1) := by decide +kernel
theorem dX0_takeBack_11 : decode cX0_takeBack 11 = .ok (.putfield 22, 3) := by decide +kernel
theorem dX0_takeBack_14 : decode cX0_takeBack 14 = .ok (.aload_n 0, 1) := by decide +kernel
theorem dX0_takeBack_15 : decode cX0_takeBack 15 = .ok (.dup, 1) := by decide +kernel
theorem dX0_takeBack_16 : decode cX0_takeBack 16 = .ok (.getfield 18, 3) := by decide +kernel
theorem dX0_takeBack_19 : decode cX0_takeBack 19 = .ok (.iconst 1, 1) := by decide +kernel
theorem dX0_takeBack_20 : decode cX0_takeBack 20 = .ok (.isub, 1) := by decide +kernel
theorem dX0_takeBack_21 : decode cX0_takeBack 21 = .ok (.putfield 18, 3) := by decide +kernel
theorem dX0_takeBack_24 : decode cX0_takeBack 24 = .ok (.aload_n 1, 1) := by decide +kernel
theorem dX0_takeBack_25 : decode cX0_takeBack 25 = .ok (.aload_n 0, 1) := by decide +kernel
theorem dX0_takeBack_26 : decode cX0_takeBack 26 = .ok (.getfield 11, 3) := by decide +kernel
theorem dX0_takeBack_29 : decode cX0_takeBack 29 = .ok (.aload_n 0, 1) := by decide +kernel
theorem dX0_takeBack_30 : decode cX0_takeBack 30 = .ok (.getfield 22, 3) := by decide +kernel
theorem dX0_takeBack_33 : decode cX0_takeBack 33 = .ok (.aaload, 1) := by decide +kernel
theorem dX0_takeBack_34 : decode cX0_takeBack 34 = .ok (.invokevirtual 25, 3) := by decide +kernel
theorem dX0_takeBack_37 : decode cX0_takeBack 37 = .ok (.return_, 1) := by decide +kernel
theorem dX1_init_0 : decode cX1_init 0 = .ok (.aload_n 0, 1) := by decide +kernel
theorem dX1_init_1 : decode cX1_init 1 = .ok (.invokespecial 3, 3) := by decide +kernel
theorem dX1_init_4 : decode cX1_init 4 = .ok (.aload_n 0, 1) := by decide +kernel
theorem dX1_init_5 : decode cX1_init 5 = .ok (.bipush 24, 2) := by decide +kernel
theorem dX1_init_7 : decode cX1_init 7 = .ok (.newarray .int, 2) := by decide +kernel
theorem dX1_init_9 : decode cX1_init 9 = .ok (.putfield 9, 3) := by decide +kernel
theorem dX1_init_12 : decode cX1_init 12 = .ok (.aload_n 0, 1) := by decide +kernel
theorem dX1_init_13 : decode cX1_init 13 = .ok (.bipush 24, 2) := by decide +kernel
theorem dX1_init_15 : decode cX1_init 15 = .ok (.newarray .int, 2) := by decide +kernel
theorem dX1_init_17 : decode cX1_init 17 = .ok (.putfield 15, 3) := by decide +kernel
theorem dX1_init_20 : decode cX1_init 20 = .ok (.return_, 1) := by decide +kernel
theorem dX1_copyFrom_0 : decode cX1_copyFrom 0 = .ok (.aload_n 1, 1) := by decide +kernel
theorem dX1_copyFrom_1 : decode cX1_copyFrom 1 = .ok (.getfield 9, 3) := by decide +kernel
theorem dX1_copyFrom_4 : decode cX1_copyFrom 4 = .ok (.iconst 0, 1) := by decide +kernel
theorem dX1_copyFrom_5 : decode cX1_copyFrom 5 = .ok (.aload_n 0, 1) := by decide +kernel
theorem dX1_copyFrom_6 : decode cX1_copyFrom 6 = .ok (.getfield 9, 3) := by decide +kernel
theorem dX1_copyFrom_9 : decode cX1_copyFrom 9 = .ok (.iconst 0, 1) := by decide +kernel
theorem dX1_copyFrom_10 : decode cX1_copyFrom 10 = .ok (.bipush 24, 2) := by decide +kernel
theorem dX1_copyFrom_12 : decode cX1_copyFrom 12 = .ok (.invokestatic 18, 3) := by decide +kernel
theorem dX1_copyFrom_15 : decode cX1_copyFrom 15 = .ok (.aload_n 1, 1) := by decide +kernel
theorem dX1_copyFrom_16 : decode cX1_copyFrom 16 = .ok (.getfield 15, 3) := by decide +kernel
theorem dX1_copyFrom_19 : decode cX1_copyFrom 19 = .ok (.iconst 0, 1) := by decide +kernel
theorem dX1_copyFrom_20 : decode cX1_copyFrom 20 = .ok (.aload_n 0, 1) := by decide +kernel
theorem dX1_copyFrom_21 : decode cX1_copyFrom 21 = .ok (.getfield 15, 3) := by decide +kernel
theorem dX1_copyFrom_24 : decode cX1_copyFrom 24 = .ok (.iconst 0, 1) := by decide +kernel
theorem dX1_copyFrom_25 : decode cX1_copyFrom 25 = .ok (.bipush 24, 2) := by decide +kernel
theorem dX1_copyFrom_27 : decode cX1_copyFrom 27 = .ok (.invokestatic 18, 3) := by decide +kernel
theorem dX1_copyFrom_30 : decode cX1_copyFrom 30 = .ok (.aload_n 0, 1) := by decide +kernel
theorem dX1_copyFrom_31 : decode cX1_copyFrom 31 = .ok (.aload_n 1, 1) := by decide +kernel
theorem dX1_copyFrom_32 : decode cX1_copyFrom 32 = .ok (.getfield 24, 3) := by decide +kernel
theorem dX1_copyFrom_35 : decode cX1_copyFrom 35 = .ok (.putfield 24, 3) := by decide +kernel
theorem dX1_copyFrom_38 : decode cX1_copyFrom 38 = .ok (.return_, 1) := by decide +kernel
theorem dX1_size_0 : decode cX1_size 0 = .ok (.aload_n 0, 1) := by decide +kernel
theorem dX1_size_1 : decode cX1_size 1 = .ok (.getfield 24, 3) := by decide +kernel
theorem dX1_size_4 : decode cX1_size 4 = .ok (.ireturn, 1) := by decide +kernel
theorem dX1_rowOf_0 : decode cX1_rowOf 0 = .ok (.aload_n 0, 1) := by decide +kernel
theorem dX1_rowOf_1 : decode cX1_rowOf 1 = .ok (.getfield 9, 3) := by decide +kernel
theorem dX1_rowOf_4 : decode cX1_rowOf 4 = .ok (.iload_n 1, 1) := by decide +kernel
theorem dX1_rowOf_5 : decode cX1_rowOf 5 = .ok (.iaload, 1) := by decide +kernel
theorem dX1_rowOf_6 : decode cX1_rowOf 6 = .ok (.ireturn, 1) := by decide +kernel
theorem dX1_heightOf_0 : decode cX1_heightOf 0 = .ok (.aload_n 0, 1) := by decide +kernel
theorem dX1_heightOf_1 : decode cX1_heightOf 1 = .ok (.getfield 15, 3) := by decide +kernel
theorem dX1_heightOf_4 : decode cX1_heightOf 4 = .ok (.iload_n 1, 1) := by decide +kernel
theorem dX1_heightOf_5 : decode cX1_heightOf 5 = .ok (.iaload, 1) := by decide +kernel
theorem dX1_heightOf_6 : decode cX1_heightOf 6 = .ok (.ireturn, 1) := by decide +kernel
theorem dX1_add_0 : decode cX1_add 0 = .ok (.aload_n 0, 1) := by decide +kernel
theorem dX1_add_1 : decode cX1_add 1 = .ok (.getfield 24, 3) := by decide +kernel
theorem dX1_add_4 : decode cX1_add 4 = .ok (.bipush 24, 2) := by decide +kernel
theorem dX1_add_6 : decode cX1_add 6 = .ok (.if_icmp .ge 33, 3) := by decide +kernel
theorem dX1_add_9 : decode cX1_add 9 = .ok (.aload_n 0, 1) := by decide +kernel
theorem dX1_add_10 : decode cX1_add 10 = .ok (.getfield 9, 3) := by decide +kernel
theorem dX1_add_13 : decode cX1_add 13 = .ok (.aload_n 0, 1) := by decide +kernel
theorem dX1_add_14 : decode cX1_add 14 = .ok (.getfield 24, 3) := by decide +kernel
theorem dX1_add_17 : decode cX1_add 17 = .ok (.iload_n 1, 1) := by decide +kernel
theorem dX1_add_18 : decode cX1_add 18 = .ok (.iastore, 1) := by decide +kernel
theorem dX1_add_19 : decode cX1_add 19 = .ok (.aload_n 0, 1) := by decide +kernel
theorem dX1_add_20 : decode cX1_add 20 = .ok (.getfield 15, 3) := by decide +kernel
theorem dX1_add_23 : decode cX1_add 23 = .ok (.aload_n 0, 1) := by decide +kernel
theorem dX1_add_24 : decode cX1_add 24 = .ok (.getfield 24, 3) := by decide +kernel
theorem dX1_add_27 : decode cX1_add 27 = .ok (.iload_n 2, 1) := by decide +kernel
theorem dX1_add_28 : decode cX1_add 28 = .ok (.iastore, 1) := by decide +kernel
theorem dX1_add_29 : decode cX1_add 29 = .ok (.aload_n 0, 1) := by decide +kernel
theorem dX1_add_30 : decode cX1_add 30 = .ok (.dup, 1) := by decide +kernel
theorem dX1_add_31 : decode cX1_add 31 = .ok (.getfield 24, 3) := by decide +kernel
theorem dX1_add_34 : decode cX1_add 34 = .ok (.iconst 1, 1) := by decide +kernel
theorem dX1_add_35 : decode cX1_add 35 = .ok (.iadd, 1) := by decide +kernel
theorem dX1_add_36 : decode cX1_add 36 = .ok (.putfield 24, 3) := by decide +kernel
theorem dX1_add_39 : decode cX1_add 39 = .ok (.return_, 1) := by decide +kernel
theorem dX1_addAll_0 : decode cX1_addAll 0 = .ok (.iconst 0, 1) := by decide +kernel
theorem dX1_addAll_1 : decode cX1_addAll 1 = .ok (.istore_n 2, 1) := by decide +kernel
theorem dX1_addAll_2 : decode cX1_addAll 2 = .ok (.iload_n 2, 1) := by decide +kernel
theorem dX1_addAll_3 : decode cX1_addAll 3 = .ok (.aload_n 1, 1) := by decide +kernel
theorem dX1_addAll_4 : decode cX1_addAll 4 = .ok (.getfield 24, 3) := by decide +kernel
theorem dX1_addAll_7 : decode cX1_addAll 7 = .ok (.if_icmp .ge 25, 3) := by decide +kernel
theorem dX1_addAll_10 : decode cX1_addAll 10 = .ok (.aload_n 0, 1) := by decide +kernel
theorem dX1_addAll_11 : decode cX1_addAll 11 = .ok (.aload_n 1, 1) := by decide +kernel
theorem dX1_addAll_12 : decode cX1_addAll 12 = .ok (.getfield 9, 3) := by decide +kernel
theorem dX1_addAll_15 : decode cX1_addAll 15 = .ok (.iload_n 2, 1) := by decide +kernel
theorem dX1_addAll_16 : decode cX1_addAll 16 = .ok (.iaload, 1) := by decide +kernel
theorem dX1_addAll_17 : decode cX1_addAll 17 = .ok (.aload_n 1, 1) := by decide +kernel
theorem dX1_addAll_18 : decode cX1_addAll 18 = .ok (.getfield 15, 3) := by decide +kernel
theorem dX1_addAll_21 : decode cX1_addAll 21 = .ok (.iload_n 2, 1) := by decide +kernel
theorem dX1_addAll_22 : decode cX1_addAll 22 = .ok (.iaload, 1) := by decide +kernel
theorem dX1_addAll_23 : decode cX1_addAll 23 = .ok (.invokevirtual 28, 3) := by decide +kernel
theorem dX1_addAll_26 : decode cX1_addAll 26 = .ok (.iinc 2 1, 3) := by decide +kernel
theorem dX1_addAll_29 : decode cX1_addAll 29 = .ok (.goto (-27), 3) := by decide +kernel
theorem dX1_addAll_32 : decode cX1_addAll 32 = .ok (.return_, 1) := by decide +kernel
theorem dX1_hasBetween_0 : decode cX1_hasBetween 0 = .ok (.iconst 0, 1) := by decide +kernel
theorem dX1_hasBetween_1 : decode cX1_hasBetween 1 = .ok (.istore_n 3, 1) := by decide +kernel
theorem dX1_hasBetween_2 : decode cX1_hasBetween 2 = .ok (.iload_n 3, 1) := by decide +kernel
theorem dX1_hasBetween_3 : decode cX1_hasBetween 3 = .ok (.aload_n 0, 1) := by decide +kernel
theorem dX1_hasBetween_4 : decode cX1_hasBetween 4 = .ok (.getfield 24, 3) := by decide +kernel
theorem dX1_hasBetween_7 : decode cX1_hasBetween 7 = .ok (.if_icmp .ge 31, 3) := by decide +kernel
theorem dX1_hasBetween_10 : decode cX1_hasBetween 10 = .ok (.aload_n 0, 1) := by decide +kernel
theorem dX1_hasBetween_11 : decode cX1_hasBetween 11 = .ok (.getfield 15, 3) := by decide +kernel
theorem dX1_hasBetween_14 : decode cX1_hasBetween 14 = .ok (.iload_n 3, 1) := by decide +kernel
theorem dX1_hasBetween_15 : decode cX1_hasBetween 15 = .ok (.iaload, 1) := by decide +kernel
theorem dX1_hasBetween_16 : decode cX1_hasBetween 16 = .ok (.iload_n 1, 1) := by decide +kernel
theorem dX1_hasBetween_17 : decode cX1_hasBetween 17 = .ok (.if_icmp .lt 15, 3) := by decide +kernel
theorem dX1_hasBetween_20 : decode cX1_hasBetween 20 = .ok (.aload_n 0, 1) := by decide +kernel
theorem dX1_hasBetween_21 : decode cX1_hasBetween 21 = .ok (.getfield 15, 3) := by decide +kernel
theorem dX1_hasBetween_24 : decode cX1_hasBetween 24 = .ok (.iload_n 3, 1) := by decide +kernel
theorem dX1_hasBetween_25 : decode cX1_hasBetween 25 = .ok (.iaload, 1) := by decide +kernel
theorem dX1_hasBetween_26 : decode cX1_hasBetween 26 = .ok (.iload_n 2, 1) := by decide +kernel
theorem dX1_hasBetween_27 : decode cX1_hasBetween 27 = .ok (.if_icmp .gt 5, 3) := by decide +kernel
theorem dX1_hasBetween_30 : decode cX1_hasBetween 30 = .ok (.iconst 1, 1) := by decide +kernel
theorem dX1_hasBetween_31 : decode cX1_hasBetween 31 = .ok (.ireturn, 1) := by decide +kernel
theorem dX1_hasBetween_32 : decode cX1_hasBetween 32 = .ok (.iinc 3 1, 3) := by decide +kernel
theorem dX1_hasBetween_35 : decode cX1_hasBetween 35 = .ok (.goto (-33), 3) := by decide +kernel
theorem dX1_hasBetween_38 : decode cX1_hasBetween 38 = .ok (.iconst 0, 1) := by decide +kernel
theorem dX1_hasBetween_39 : decode cX1_hasBetween 39 = .ok (.ireturn, 1) := by decide +kernel
theorem dX1_removeBetween_0 : decode cX1_removeBetween 0 = .ok (.iconst 0, 1) := by decide +kernel
theorem dX1_removeBetween_1 : decode cX1_removeBetween 1 = .ok (.istore_n 3, 1) := by decide +kernel
theorem dX1_removeBetween_2 : decode cX1_removeBetween 2 = .ok (.iconst 0, 1) := by decide +kernel
theorem dX1_removeBetween_3 : decode cX1_removeBetween 3 = .ok (.istore 4, 2) := by decide +kernel
theorem dX1_removeBetween_5 : decode cX1_removeBetween 5 = .ok (.iload 4, 2) := by decide +kernel
theorem dX1_removeBetween_7 : decode cX1_removeBetween 7 = .ok (.aload_n 0, 1) := by decide +kernel
theorem dX1_removeBetween_8 : decode cX1_removeBetween 8 = .ok (.getfield 24, 3) := by decide +kernel
theorem dX1_removeBetween_11 : decode cX1_removeBetween 11 = .ok (.if_icmp .ge 60, 3) := by decide +kernel
theorem dX1_removeBetween_14 : decode cX1_removeBetween 14 = .ok (.aload_n 0, 1) := by decide +kernel
theorem dX1_removeBetween_15 : decode cX1_removeBetween 15 = .ok (.getfield 15, 3) := by decide +kernel
theorem dX1_removeBetween_18 : decode cX1_removeBetween 18 = .ok (.iload 4, 2) := by decide +kernel
theorem dX1_removeBetween_20 : decode cX1_removeBetween 20 = .ok (.iaload, 1) := by decide +kernel
theorem dX1_removeBetween_21 : decode cX1_removeBetween 21 = .ok (.iload_n 1, 1) := by decide +kernel
theorem dX1_removeBetween_22 : decode cX1_removeBetween 22 = .ok (.if_icmp .lt 14, 3) := by decide +kernel
theorem dX1_removeBetween_25 : decode cX1_removeBetween 25 = .ok (.aload_n 0, 1) := by decide +kernel
theorem dX1_removeBetween_26 : decode cX1_removeBetween 26 = .ok (.getfield 15, 3) := by decide +kernel
theorem dX1_removeBetween_29 : decode cX1_removeBetween 29 = .ok (.iload 4, 2) := by decide +kernel
theorem dX1_removeBetween_31 : decode cX1_removeBetween 31 = .ok (.iaload, 1) := by decide +kernel
theorem dX1_removeBetween_32 : decode cX1_removeBetween 32 = .ok (.iload_n 2, 1) := by decide +kernel
theorem dX1_removeBetween_33 : decode cX1_removeBetween 33 = .ok (.if_icmp .le 32, 3) := by decide +kernel
theorem dX1_removeBetween_36 : decode cX1_removeBetween 36 = .ok (.aload_n 0, 1) := by decide +kernel
theorem dX1_removeBetween_37 : decode cX1_removeBetween 37 = .ok (.getfield 9, 3) := by decide +kernel
theorem dX1_removeBetween_40 : decode cX1_removeBetween 40 = .ok (.iload_n 3, 1) := by decide +kernel
theorem dX1_removeBetween_41 : decode cX1_removeBetween 41 = .ok (.aload_n 0, 1) := by decide +kernel
theorem dX1_removeBetween_42 : decode cX1_removeBetween 42 = .ok (.getfield 9, 3) := by decide +kernel
theorem dX1_removeBetween_45 : decode cX1_removeBetween 45 = .ok (.iload 4, 2) := by decide +kernel
theorem dX1_removeBetween_47 : decode cX1_removeBetween 47 = .ok (.iaload, 1) := by decide +kernel
theorem dX1_removeBetween_48 : decode cX1_removeBetween 48 = .ok (.iastore, 1) := by decide +kernel
theorem dX1_removeBetween_49 : decode cX1_removeBetween 49 = .ok (.aload_n 0, 1) := by decide +kernel
theorem dX1_removeBetween_50 : decode cX1_removeBetween 50 = .ok (.getfield 15, 3) := by decide +kernel
theorem dX1_removeBetween_53 : decode cX1_removeBetween 53 = .ok (.iload_n 3, 1) := by decide +kernel
theorem dX1_removeBetween_54 : decode cX1_removeBetween 54 = .ok (.aload_n 0, 1) := by decide +kernel
theorem dX1_removeBetween_55 : decode cX1_removeBetween 55 = .ok (.getfield 15, 3) := by decide +kernel
theorem dX1_removeBetween_58 : decode cX1_removeBetween 58 = .ok (.iload 4, 2) := by decide +kernel
theorem dX1_removeBetween_60 : decode cX1_removeBetween 60 = .ok (.iaload, 1) := by decide +kernel
theorem dX1_removeBetween_61 : decode cX1_removeBetween 61 = .ok (.iastore, 1) := by decide +kernel
theorem dX1_removeBetween_62 : decode cX1_removeBetween 62 = .ok (.iinc 3 1, 3) := by decide +kernel
theorem dX1_removeBetween_65 : decode cX1_removeBetween 65 = .ok (.iinc 4 1, 3) := by decide +kernel
theorem dX1_removeBetween_68 : decode cX1_removeBetween 68 = .ok (.goto (-63), 3) := by decide +kernel
theorem dX1_removeBetween_71 : decode cX1_removeBetween 71 = .ok (.aload_n 0, 1) := by decide +kernel
theorem dX1_removeBetween_72 : decode cX1_removeBetween 72 = .ok (.getfield 24, 3) := by decide +kernel
theorem dX1_removeBetween_75 : decode cX1_removeBetween 75 = .ok (.iload_n 3, 1) := by decide +kernel
theorem dX1_removeBetween_76 : decode cX1_removeBetween 76 = .ok (.isub, 1) := by decide +kernel
theorem dX1_removeBetween_77 : decode cX1_removeBetween 77 = .ok (.istore 4, 2) := by decide +kernel
theorem dX1_removeBetween_79 : decode cX1_removeBetween 79 = .ok (.aload_n 0, 1) := by decide +kernel
theorem dX1_removeBetween_80 : decode cX1_removeBetween 80 = .ok (.iload_n 3, 1) := by decide +kernel
theorem dX1_removeBetween_81 : decode cX1_removeBetween 81 = .ok (.putfield 24, 3) := by decide +kernel
theorem dX1_removeBetween_84 : decode cX1_removeBetween 84 = .ok (.iload 4, 2) := by decide +kernel
theorem dX1_removeBetween_86 : decode cX1_removeBetween 86 = .ok (.ireturn, 1) := by decide +kernel
theorem dX1_removeAll_0 : decode cX1_removeAll 0 = .ok (.aload_n 0, 1) := by decide +kernel
theorem dX1_removeAll_1 : decode cX1_removeAll 1 = .ok (.iconst 0, 1) := by decide +kernel
theorem dX1_removeAll_2 : decode cX1_removeAll 2 = .ok (.putfield 24, 3) := by decide +kernel
theorem dX1_removeAll_5 : decode cX1_removeAll 5 = .ok (.return_, 1) := by decide +kernel
theorem dX2_init_0 : decode cX2_init 0 = .ok (.aload_n 0, 1) := by decide +kernel
theorem dX2_init_1 : decode cX2_init 1 = .ok (.invokespecial 3, 3) := by decide +kernel
theorem dX2_init_4 : decode cX2_init 4 = .ok (.aload_n 0, 1) := by decide +kernel
theorem dX2_init_5 : decode cX2_init 5 = .ok (.bipush 7, 2) := by decide +kernel
theorem dX2_init_7 : decode cX2_init 7 = .ok (.newarray .int, 2) := by decide +kernel
theorem dX2_init_9 : decode cX2_init 9 = .ok (.putfield 9, 3) := by decide +kernel
theorem dX2_init_12 : decode cX2_init 12 = .ok (.return_, 1) := by decide +kernel
theorem dX2_fact_0 : decode cX2_fact 0 = .ok (.aload_n 0, 1) := by decide +kernel
theorem dX2_fact_1 : decode cX2_fact 1 = .ok (.getfield 9, 3) := by decide +kernel
theorem dX2_fact_4 : decode cX2_fact 4 = .ok (.iload_n 1, 1) := by decide +kernel
theorem dX2_fact_5 : decode cX2_fact 5 = .ok (.iaload, 1) := by decide +kernel
theorem dX2_fact_6 : decode cX2_fact 6 = .ok (.ireturn, 1) := by decide +kernel
theorem dX2_go_0 : decode cX2_go 0 = .ok (.aload_n 0, 1) := by decide +kernel
theorem dX2_go_1 : decode cX2_go 1 = .ok (.iload_n 2, 1) := by decide +kernel
theorem dX2_go_2 : decode cX2_go 2 = .ok (.iload_n 3, 1) := by decide +kernel
theorem dX2_go_3 : decode cX2_go 3 = .ok (.invokevirtual 15, 3) := by decide +kernel
theorem dX2_go_6 : decode cX2_go 6 = .ok (.iload_n 3, 1) := by decide +kernel
theorem dX2_go_7 : decode cX2_go 7 = .ok (.istore 6, 2) := by decide +kernel
theorem dX2_go_9 : decode cX2_go 9 = .ok (.bipush 19, 2) := by decide +kernel
theorem dX2_go_11 : decode cX2_go 11 = .ok (.istore 7, 2) := by decide +kernel
theorem dX2_go_13 : decode cX2_go 13 = .ok (.iload 7, 2) := by decide +kernel
theorem dX2_go_15 : decode cX2_go 15 = .ok (.ifCond .lt 71, 3) := by decide +kernel
theorem dX2_go_18 : decode cX2_go 18 = .ok (.iload 4, 2) := by decide +kernel
theorem dX2_go_20 : decode cX2_go 20 = .ok (.aload_n 1, 1) := by decide +kernel
theorem dX2_go_21 : decode cX2_go 21 = .ok (.iload_n 2, 1) := by decide +kernel
theorem dX2_go_22 : decode cX2_go 22 = .ok (.iload 7, 2) := by decide +kernel
theorem dX2_go_24 : decode cX2_go 24 = .ok (.invokevirtual 19, 3) := by decide +kernel
theorem dX2_go_27 : decode cX2_go 27 = .ok (.isub, 1) := by decide +kernel
theorem dX2_go_28 : decode cX2_go 28 = .ok (.istore 8, 2) := by decide +kernel
theorem dX2_go_30 : decode cX2_go 30 = .ok (.iload 8, 2) := by decide +kernel
theorem dX2_go_32 : decode cX2_go 32 = .ok (.ifCond .gt 11, 3) := by decide +kernel
theorem dX2_go_35 : decode cX2_go 35 = .ok (.aload_n 0, 1) := by decide +kernel
theorem dX2_go_36 : decode cX2_go 36 = .ok (.iload 7, 2) := by decide +kernel
theorem dX2_go_38 : decode cX2_go 38 = .ok (.iconst 1, 1) := by decide +kernel
theorem dX2_go_39 : decode cX2_go 39 = .ok (.invokevirtual 25, 3) := by decide +kernel
theorem dX2_go_42 : decode cX2_go 42 = .ok (.return_, 1) := by decide +kernel
theorem dX2_go_43 : decode cX2_go 43 = .ok (.iload 8, 2) := by decide +kernel
theorem dX2_go_45 : decode cX2_go 45 = .ok (.iload 6, 2) := by decide +kernel
theorem dX2_go_47 : decode cX2_go 47 = .ok (.if_icmp .ge 33, 3) := by decide +kernel
theorem dX2_go_50 : decode cX2_go 50 = .ok (.aload_n 0, 1) := by decide +kernel
theorem dX2_go_51 : decode cX2_go 51 = .ok (.aload_n 1, 1) := by decide +kernel
theorem dX2_go_52 : decode cX2_go 52 = .ok (.iload 7, 2) := by decide +kernel
theorem dX2_go_54 : decode cX2_go 54 = .ok (.iload 6, 2) := by decide +kernel
theorem dX2_go_56 : decode cX2_go 56 = .ok (.iload 5, 2) := by decide +kernel
theorem dX2_go_58 : decode cX2_go 58 = .ok (.invokevirtual 28, 3) := by decide +kernel
theorem dX2_go_61 : decode cX2_go 61 = .ok (.iload 6, 2) := by decide +kernel
theorem dX2_go_63 : decode cX2_go 63 = .ok (.iconst 2, 1) := by decide +kernel
theorem dX2_go_64 : decode cX2_go 64 = .ok (.idiv, 1) := by decide +kernel
theorem dX2_go_65 : decode cX2_go 65 = .ok (.istore 6, 2) := by decide +kernel
theorem dX2_go_67 : decode cX2_go 67 = .ok (.iload 6, 2) := by decide +kernel
theorem dX2_go_69 : decode cX2_go 69 = .ok (.ifCond .ne 11, 3) := by decide +kernel
theorem dX2_go_72 : decode cX2_go 72 = .ok (.aload_n 0, 1) := by decide +kernel
theorem dX2_go_73 : decode cX2_go 73 = .ok (.iload 7, 2) := by decide +kernel
theorem dX2_go_75 : decode cX2_go 75 = .ok (.iconst 2, 1) := by decide +kernel
theorem dX2_go_76 : decode cX2_go 76 = .ok (.invokevirtual 25, 3) := by decide +kernel
theorem dX2_go_79 : decode cX2_go 79 = .ok (.return_, 1) := by decide +kernel
theorem dX2_go_80 : decode cX2_go 80 = .ok (.iinc 7 (-1), 3) := by decide +kernel
theorem dX2_go_83 : decode cX2_go 83 = .ok (.goto (-70), 3) := by decide +kernel
theorem dX2_go_86 : decode cX2_go 86 = .ok (.aload_n 0, 1) := by decide +kernel
theorem dX2_go_87 : decode cX2_go 87 = .ok (.iconst (-1), 1) := by decide +kernel
theorem dX2_go_88 : decode cX2_go 88 = .ok (.iconst 3, 1) := by decide +kernel
theorem dX2_go_89 : decode cX2_go 89 = .ok (.invokevirtual 25, 3) := by decide +kernel
theorem dX2_go_92 : decode cX2_go 92 = .ok (.return_, 1) := by decide +kernel
theorem dX2_begin_0 : decode cX2_begin 0 = .ok (.aload_n 0, 1) := by decide +kernel
theorem dX2_begin_1 : decode cX2_begin 1 = .ok (.getfield 9, 3) := by decide +kernel
theorem dX2_begin_4 : decode cX2_begin 4 = .ok (.iconst 0, 1) := by decide +kernel
theorem dX2_begin_5 : decode cX2_begin 5 = .ok (.iload_n 1, 1) := by decide +kernel
theorem dX2_begin_6 : decode cX2_begin 6 = .ok (.iastore, 1) := by decide +kernel
theorem dX2_begin_7 : decode cX2_begin 7 = .ok (.aload_n 0, 1) := by decide +kernel
theorem dX2_begin_8 : decode cX2_begin 8 = .ok (.getfield 9, 3) := by decide +kernel
theorem dX2_begin_11 : decode cX2_begin 11 = .ok (.iconst 1, 1) := by decide +kernel
theorem dX2_begin_12 : decode cX2_begin 12 = .ok (.iload_n 2, 1) := by decide +kernel
theorem dX2_begin_13 : decode cX2_begin 13 = .ok (.iastore, 1) := by decide +kernel
theorem dX2_begin_14 : decode cX2_begin 14 = .ok (.aload_n 0, 1) := by decide +kernel
theorem dX2_begin_15 : decode cX2_begin 15 = .ok (.getfield 9, 3) := by decide +kernel
theorem dX2_begin_18 : decode cX2_begin 18 = .ok (.iconst 2, 1) := by decide +kernel
theorem dX2_begin_19 : decode cX2_begin 19 = .ok (.sipush (-1005), 3) := by decide +kernel
theorem dX2_begin_22 : decode cX2_begin 22 = .ok (.iastore, 1) := by decide +kernel
theorem dX2_begin_23 : decode cX2_begin 23 = .ok (.aload_n 0, 1) := by decide +kernel
theorem dX2_begin_24 : decode cX2_begin 24 = .ok (.getfield 9, 3) := by decide +kernel
theorem dX2_begin_27 : decode cX2_begin 27 = .ok (.iconst 5, 1) := by decide +kernel
theorem dX2_begin_28 : decode cX2_begin 28 = .ok (.iconst 0, 1) := by decide +kernel
theorem dX2_begin_29 : decode cX2_begin 29 = .ok (.iastore, 1) := by decide +kernel
theorem dX2_begin_30 : decode cX2_begin 30 = .ok (.aload_n 0, 1) := by decide +kernel
theorem dX2_begin_31 : decode cX2_begin 31 = .ok (.getfield 9, 3) := by decide +kernel
theorem dX2_begin_34 : decode cX2_begin 34 = .ok (.bipush 6, 2) := by decide +kernel
theorem dX2_begin_36 : decode cX2_begin 36 = .ok (.iconst 0, 1) := by decide +kernel
theorem dX2_begin_37 : decode cX2_begin 37 = .ok (.iastore, 1) := by decide +kernel
theorem dX2_begin_38 : decode cX2_begin 38 = .ok (.aload_n 0, 1) := by decide +kernel
theorem dX2_begin_39 : decode cX2_begin 39 = .ok (.iconst 0, 1) := by decide +kernel
theorem dX2_begin_40 : decode cX2_begin 40 = .ok (.putfield 32, 3) := by decide +kernel
theorem dX2_begin_43 : decode cX2_begin 43 = .ok (.aload_n 0, 1) := by decide +kernel
theorem dX2_begin_44 : decode cX2_begin 44 = .ok (.iconst 0, 1) := by decide +kernel
theorem dX2_begin_45 : decode cX2_begin 45 = .ok (.putfield 36, 3) := by decide +kernel
theorem dX2_begin_48 : decode cX2_begin 48 = .ok (.return_, 1) := by decide +kernel
theorem dX2_end_0 : decode cX2_end 0 = .ok (.aload_n 0, 1) := by decide +kernel
theorem dX2_end_1 : decode cX2_end 1 = .ok (.getfield 9, 3) := by decide +kernel
theorem dX2_end_4 : decode cX2_end 4 = .ok (.iconst 3, 1) := by decide +kernel
theorem dX2_end_5 : decode cX2_end 5 = .ok (.iload_n 1, 1) := by decide +kernel
theorem dX2_end_6 : decode cX2_end 6 = .ok (.iastore, 1) := by decide +kernel
theorem dX2_end_7 : decode cX2_end 7 = .ok (.aload_n 0, 1) := by decide +kernel
theorem dX2_end_8 : decode cX2_end 8 = .ok (.getfield 9, 3) := by decide +kernel
theorem dX2_end_11 : decode cX2_end 11 = .ok (.iconst 4, 1) := by decide +kernel
theorem dX2_end_12 : decode cX2_end 12 = .ok (.iload_n 2, 1) := by decide +kernel
theorem dX2_end_13 : decode cX2_end 13 = .ok (.iastore, 1) := by decide +kernel
theorem dX2_end_14 : decode cX2_end 14 = .ok (.return_, 1) := by decide +kernel
theorem dX2_breakAt_0 : decode cX2_breakAt 0 = .ok (.aload_n 0, 1) := by decide +kernel
theorem dX2_breakAt_1 : decode cX2_breakAt 1 = .ok (.getfield 9, 3) := by decide +kernel
theorem dX2_breakAt_4 : decode cX2_breakAt 4 = .ok (.iconst 5, 1) := by decide +kernel
theorem dX2_breakAt_5 : decode cX2_breakAt 5 = .ok (.iaload, 1) := by decide +kernel
theorem dX2_breakAt_6 : decode cX2_breakAt 6 = .ok (.ifCond .ne 10, 3) := by decide +kernel
theorem dX2_breakAt_9 : decode cX2_breakAt 9 = .ok (.aload_n 0, 1) := by decide +kernel
theorem dX2_breakAt_10 : decode cX2_breakAt 10 = .ok (.getfield 9, 3) := by decide +kernel
theorem dX2_breakAt_13 : decode cX2_breakAt 13 = .ok (.iconst 2, 1) := by decide +kernel
theorem dX2_breakAt_14 : decode cX2_breakAt 14 = .ok (.iload_n 2, 1) := by decide +kernel
theorem dX2_breakAt_15 : decode cX2_breakAt 15 = .ok (.iastore, 1) := by decide +kernel
theorem dX2_breakAt_16 : decode cX2_breakAt 16 = .ok (.aload_n 0, 1) := by decide +kernel
theorem dX2_breakAt_17 : decode cX2_breakAt 17 = .ok (.getfield 9, 3) := by decide +kernel
theorem dX2_breakAt_20 : decode cX2_breakAt 20 = .ok (.iconst 5, 1) := by decide +kernel
theorem dX2_breakAt_21 : decode cX2_breakAt 21 = .ok (.dup2, 1) := by decide +kernel
theorem dX2_breakAt_22 : decode cX2_breakAt 22 = .ok (.iaload, 1) := by decide +kernel
theorem dX2_breakAt_23 : decode cX2_breakAt 23 = .ok (.iconst 1, 1) := by decide +kernel
theorem dX2_breakAt_24 : decode cX2_breakAt 24 = .ok (.iadd, 1) := by decide +kernel
theorem dX2_breakAt_25 : decode cX2_breakAt 25 = .ok (.iastore, 1) := by decide +kernel
theorem dX2_breakAt_26 : decode cX2_breakAt 26 = .ok (.aload_n 0, 1) := by decide +kernel
theorem dX2_breakAt_27 : decode cX2_breakAt 27 = .ok (.getfield 9, 3) := by decide +kernel
theorem dX2_breakAt_30 : decode cX2_breakAt 30 = .ok (.iconst 0, 1) := by decide +kernel
theorem dX2_breakAt_31 : decode cX2_breakAt 31 = .ok (.iaload, 1) := by decide +kernel
theorem dX2_breakAt_32 : decode cX2_breakAt 32 = .ok (.istore 5, 2) := by decide +kernel
theorem dX2_breakAt_34 : decode cX2_breakAt 34 = .ok (.iconst 1, 1) := by decide +kernel
theorem dX2_breakAt_35 : decode cX2_breakAt 35 = .ok (.iload_n 3, 1) := by decide +kernel
theorem dX2_breakAt_36 : decode cX2_breakAt 36 = .ok (.iconst 5, 1) := by decide +kernel
theorem dX2_breakAt_37 : decode cX2_breakAt 37 = .ok (.idiv, 1) := by decide +kernel
theorem dX2_breakAt_38 : decode cX2_breakAt 38 = .ok (.iadd, 1) := by decide +kernel
theorem dX2_breakAt_39 : decode cX2_breakAt 39 = .ok (.aload_n 1, 1) := by decide +kernel
theorem dX2_breakAt_40 : decode cX2_breakAt 40 = .ok (.iload 5, 2) := by decide +kernel
theorem dX2_breakAt_42 : decode cX2_breakAt 42 = .ok (.iload_n 2, 1) := by decide +kernel
theorem dX2_breakAt_43 : decode cX2_breakAt 43 = .ok (.invokevirtual 19, 3) := by decide +kernel
theorem dX2_breakAt_46 : decode cX2_breakAt 46 = .ok (.invokestatic 39, 3) := by decide +kernel
theorem dX2_breakAt_49 : decode cX2_breakAt 49 = .ok (.istore 6, 2) := by decide +kernel
theorem dX2_breakAt_51 : decode cX2_breakAt 51 = .ok (.aload_n 0, 1) := by decide +kernel
theorem dX2_breakAt_52 : decode cX2_breakAt 52 = .ok (.aload_n 1, 1) := by decide +kernel
theorem dX2_breakAt_53 : decode cX2_breakAt 53 = .ok (.iload 4, 2) := by decide +kernel
theorem dX2_breakAt_55 : decode cX2_breakAt 55 = .ok (.ifCond .eq 9, 3) := by decide +kernel
theorem dX2_breakAt_58 : decode cX2_breakAt 58 = .ok (.iload_n 2, 1) := by decide +kernel
theorem dX2_breakAt_59 : decode cX2_breakAt 59 = .ok (.iconst 1, 1) := by decide +kernel
theorem dX2_breakAt_60 : decode cX2_breakAt 60 = .ok (.iadd, 1) := by decide +kernel
theorem dX2_breakAt_61 : decode cX2_breakAt 61 = .ok (.goto 6, 3) := by decide +kernel
theorem dX2_breakAt_64 : decode cX2_breakAt 64 = .ok (.iload_n 2, 1) := by decide +kernel
theorem dX2_breakAt_65 : decode cX2_breakAt 65 = .ok (.iconst 1, 1) := by decide +kernel
theorem dX2_breakAt_66 : decode cX2_breakAt 66 = .ok (.isub, 1) := by decide +kernel
theorem dX2_breakAt_67 : decode cX2_breakAt 67 = .ok (.iload 6, 2) := by decide +kernel
theorem dX2_breakAt_69 : decode cX2_breakAt 69 = .ok (.invokevirtual 44, 3) := by decide +kernel
theorem dX2_breakAt_72 : decode cX2_breakAt 72 = .ok (.istore 7, 2) := by decide +kernel
theorem dX2_breakAt_74 : decode cX2_breakAt 74 = .ok (.aload_n 1, 1) := by decide +kernel
theorem dX2_breakAt_75 : decode cX2_breakAt 75 = .ok (.iload 5, 2) := by decide +kernel
theorem dX2_breakAt_77 : decode cX2_breakAt 77 = .ok (.iload_n 2, 1) := by decide +kernel
theorem dX2_breakAt_78 : decode cX2_breakAt 78 = .ok (.iload 7, 2) := by decide +kernel
theorem dX2_breakAt_80 : decode cX2_breakAt 80 = .ok (.ineg, 1) := by decide +kernel
theorem dX2_breakAt_81 : decode cX2_breakAt 81 = .ok (.invokevirtual 48, 3) := by decide +kernel
theorem dX2_breakAt_84 : decode cX2_breakAt 84 = .ok (.aload_n 0, 1) := by decide +kernel
theorem dX2_breakAt_85 : decode cX2_breakAt 85 = .ok (.getfield 9, 3) := by decide +kernel
theorem dX2_breakAt_88 : decode cX2_breakAt 88 = .ok (.bipush 6, 2) := by decide +kernel
theorem dX2_breakAt_90 : decode cX2_breakAt 90 = .ok (.dup2, 1) := by decide +kernel
theorem dX2_breakAt_91 : decode cX2_breakAt 91 = .ok (.iaload, 1) := by decide +kernel
theorem dX2_breakAt_92 : decode cX2_breakAt 92 = .ok (.iload 7, 2) := by decide +kernel
theorem dX2_breakAt_94 : decode cX2_breakAt 94 = .ok (.iadd, 1) := by decide +kernel
theorem dX2_breakAt_95 : decode cX2_breakAt 95 = .ok (.iastore, 1) := by decide +kernel
theorem dX2_breakAt_96 : decode cX2_breakAt 96 = .ok (.return_, 1) := by decide +kernel
theorem dX2_give_0 : decode cX2_give 0 = .ok (.iload_n 2, 1) := by decide +kernel
theorem dX2_give_1 : decode cX2_give 1 = .ok (.ifCond .ge 15, 3) := by decide +kernel
theorem dX2_give_4 : decode cX2_give 4 = .ok (.aload_n 0, 1) := by decide +kernel
theorem dX2_give_5 : decode cX2_give 5 = .ok (.dup, 1) := by decide +kernel
theorem dX2_give_6 : decode cX2_give 6 = .ok (.getfield 36, 3) := by decide +kernel
theorem dX2_give_9 : decode cX2_give 9 = .ok (.iload_n 3, 1) := by decide +kernel
theorem dX2_give_10 : decode cX2_give 10 = .ok (.iadd, 1) := by decide +kernel
theorem dX2_give_11 : decode cX2_give 11 = .ok (.putfield 36, 3) := by decide +kernel
theorem dX2_give_14 : decode cX2_give 14 = .ok (.iload_n 3, 1) := by decide +kernel
theorem dX2_give_15 : decode cX2_give 15 = .ok (.ireturn, 1) := by decide +kernel
theorem dX2_give_16 : decode cX2_give 16 = .ok (.iload_n 2, 1) := by decide +kernel
theorem dX2_give_17 : decode cX2_give 17 = .ok (.bipush 20, 2) := by decide +kernel
theorem dX2_give_19 : decode cX2_give 19 = .ok (.if_icmp .lt 15, 3) := by decide +kernel
theorem dX2_give_22 : decode cX2_give 22 = .ok (.aload_n 0, 1) := by decide +kernel
theorem dX2_give_23 : decode cX2_give 23 = .ok (.dup, 1) := by decide +kernel
theorem dX2_give_24 : decode cX2_give 24 = .ok (.getfield 32, 3) := by decide +kernel
theorem dX2_give_27 : decode cX2_give 27 = .ok (.iload_n 3, 1) := by decide +kernel
theorem dX2_give_28 : decode cX2_give 28 = .ok (.iadd, 1) := by decide +kernel
theorem dX2_give_29 : decode cX2_give 29 = .ok (.putfield 32, 3) := by decide +kernel
theorem dX2_give_32 : decode cX2_give 32 = .ok (.iload_n 3, 1) := by decide +kernel
theorem dX2_give_33 : decode cX2_give 33 = .ok (.ireturn, 1) := by decide +kernel
theorem dX2_give_34 : decode cX2_give 34 = .ok (.aload_n 0, 1) := by decide +kernel
theorem dX2_give_35 : decode cX2_give 35 = .ok (.getfield 9, 3) := by decide +kernel
theorem dX2_give_38 : decode cX2_give 38 = .ok (.iconst 0, 1) := by decide +kernel
theorem dX2_give_39 : decode cX2_give 39 = .ok (.iaload, 1) := by decide +kernel
theorem dX2_give_40 : decode cX2_give 40 = .ok (.istore 4, 2) := by decide +kernel
theorem dX2_give_42 : decode cX2_give 42 = .ok (.iload_n 3, 1) := by decide +kernel
theorem dX2_give_43 : decode cX2_give 43 = .ok (.bipush 99, 2) := by decide +kernel
theorem dX2_give_45 : decode cX2_give 45 = .ok (.aload_n 1, 1) := by decide +kernel
theorem dX2_give_46 : decode cX2_give 46 = .ok (.iload 4, 2) := by decide +kernel
theorem dX2_give_48 : decode cX2_give 48 = .ok (.iload_n 2, 1) := by decide +kernel
theorem dX2_give_49 : decode cX2_give 49 = .ok (.invokevirtual 19, 3) := by decide +kernel
theorem dX2_give_52 : decode cX2_give 52 = .ok (.isub, 1) := by decide +kernel
theorem dX2_give_53 : decode cX2_give 53 = .ok (.invokestatic 39, 3) := by decide +kernel
theorem dX2_give_56 : decode cX2_give 56 = .ok (.istore 5, 2) := by decide +kernel
theorem dX2_give_58 : decode cX2_give 58 = .ok (.aload_n 1, 1) := by decide +kernel
theorem dX2_give_59 : decode cX2_give 59 = .ok (.iload 4, 2) := by decide +kernel
theorem dX2_give_61 : decode cX2_give 61 = .ok (.iload_n 2, 1) := by decide +kernel
theorem dX2_give_62 : decode cX2_give 62 = .ok (.iload 5, 2) := by decide +kernel
theorem dX2_give_64 : decode cX2_give 64 = .ok (.invokevirtual 48, 3) := by decide +kernel
theorem dX2_give_67 : decode cX2_give 67 = .ok (.iload 5, 2) := by decide +kernel
theorem dX2_give_69 : decode cX2_give 69 = .ok (.ireturn, 1) := by decide +kernel
theorem dX3_init_0 : decode cX3_init 0 = .ok (.aload_n 0, 1) := by decide +kernel
theorem dX3_init_1 : decode cX3_init 1 = .ok (.invokespecial 3, 3) := by decide +kernel
theorem dX3_init_4 : decode cX3_init 4 = .ok (.aload_n 0, 1) := by decide +kernel
theorem dX3_init_5 : decode cX3_init 5 = .ok (.bipush 80, 2) := by decide +kernel
theorem dX3_init_7 : decode cX3_init 7 = .ok (.newarray .int, 2) := by decide +kernel
theorem dX3_init_9 : decode cX3_init 9 = .ok (.putfield 9, 3) := by decide +kernel
theorem dX3_init_12 : decode cX3_init 12 = .ok (.aload_n 0, 1) := by decide +kernel
theorem dX3_init_13 : decode cX3_init 13 = .ok (.iconst 4, 1) := by decide +kernel
theorem dX3_init_14 : decode cX3_init 14 = .ok (.newarray .int, 2) := by decide +kernel
theorem dX3_init_16 : decode cX3_init 16 = .ok (.putfield 15, 3) := by decide +kernel
theorem dX3_init_19 : decode cX3_init 19 = .ok (.iconst 0, 1) := by decide +kernel
theorem dX3_init_20 : decode cX3_init 20 = .ok (.istore_n 1, 1) := by decide +kernel
theorem dX3_init_21 : decode cX3_init 21 = .ok (.iload_n 1, 1) := by decide +kernel
theorem dX3_init_22 : decode cX3_init 22 = .ok (.aload_n 0, 1) := by decide +kernel
theorem dX3_init_23 : decode cX3_init 23 = .ok (.getfield 9, 3) := by decide +kernel
theorem dX3_init_26 : decode cX3_init 26 = .ok (.arraylength, 1) := by decide +kernel
theorem dX3_init_27 : decode cX3_init 27 = .ok (.if_icmp .ge 22, 3) := by decide +kernel
theorem dX3_init_30 : decode cX3_init 30 = .ok (.aload_n 0, 1) := by decide +kernel
theorem dX3_init_31 : decode cX3_init 31 = .ok (.getfield 9, 3) := by decide +kernel
theorem dX3_init_34 : decode cX3_init 34 = .ok (.iload_n 1, 1) := by decide +kernel
theorem dX3_init_35 : decode cX3_init 35 = .ok (.iload_n 1, 1) := by decide +kernel
theorem dX3_init_36 : decode cX3_init 36 = .ok (.bipush 20, 2) := by decide +kernel
theorem dX3_init_38 : decode cX3_init 38 = .ok (.irem, 1) := by decide +kernel
theorem dX3_init_39 : decode cX3_init 39 = .ok (.invokestatic 18, 3) := by decide +kernel
theorem dX3_init_42 : decode cX3_init 42 = .ok (.iastore, 1) := by decide +kernel
theorem dX3_init_43 : decode cX3_init 43 = .ok (.iinc 1 1, 3) := by decide +kernel
theorem dX3_init_46 : decode cX3_init 46 = .ok (.goto (-25), 3) := by decide +kernel
theorem dX3_init_49 : decode cX3_init 49 = .ok (.return_, 1) := by decide +kernel
theorem dX3_copyFrom_0 : decode cX3_copyFrom 0 = .ok (.aload_n 1, 1) := by decide +kernel
theorem dX3_copyFrom_1 : decode cX3_copyFrom 1 = .ok (.getfield 9, 3) := by decide +kernel
theorem dX3_copyFrom_4 : decode cX3_copyFrom 4 = .ok (.iconst 0, 1) := by decide +kernel
theorem dX3_copyFrom_5 : decode cX3_copyFrom 5 = .ok (.aload_n 0, 1) := by decide +kernel
theorem dX3_copyFrom_6 : decode cX3_copyFrom 6 = .ok (.getfield 9, 3) := by decide +kernel
theorem dX3_copyFrom_9 : decode cX3_copyFrom 9 = .ok (.iconst 0, 1) := by decide +kernel
theorem dX3_copyFrom_10 : decode cX3_copyFrom 10 = .ok (.aload_n 0, 1) := by decide +kernel
theorem dX3_copyFrom_11 : decode cX3_copyFrom 11 = .ok (.getfield 9, 3) := by decide +kernel
theorem dX3_copyFrom_14 : decode cX3_copyFrom 14 = .ok (.arraylength, 1) := by decide +kernel
theorem dX3_copyFrom_15 : decode cX3_copyFrom 15 = .ok (.invokestatic 22, 3) := by decide +kernel
theorem dX3_copyFrom_18 : decode cX3_copyFrom 18 = .ok (.return_, 1) := by decide +kernel
theorem dX3_heightAt_0 : decode cX3_heightAt 0 = .ok (.aload_n 0, 1) := by decide +kernel
theorem dX3_heightAt_1 : decode cX3_heightAt 1 = .ok (.getfield 9, 3) := by decide +kernel
theorem dX3_heightAt_4 : decode cX3_heightAt 4 = .ok (.iload_n 1, 1) := by decide +kernel
theorem dX3_heightAt_5 : decode cX3_heightAt 5 = .ok (.bipush 20, 2) := by decide +kernel
theorem dX3_heightAt_7 : decode cX3_heightAt 7 = .ok (.imul, 1) := by decide +kernel
theorem dX3_heightAt_8 : decode cX3_heightAt 8 = .ok (.iload_n 2, 1) := by decide +kernel
theorem dX3_heightAt_9 : decode cX3_heightAt 9 = .ok (.iadd, 1) := by decide +kernel
theorem dX3_heightAt_10 : decode cX3_heightAt 10 = .ok (.iaload, 1) := by decide +kernel
theorem dX3_heightAt_11 : decode cX3_heightAt 11 = .ok (.ireturn, 1) := by decide +kernel
theorem dX3_setHeight_0 : decode cX3_setHeight 0 = .ok (.aload_n 0, 1) := by decide +kernel
theorem dX3_setHeight_1 : decode cX3_setHeight 1 = .ok (.getfield 9, 3) := by decide +kernel
theorem dX3_setHeight_4 : decode cX3_setHeight 4 = .ok (.iload_n 1, 1) := by decide +kernel
theorem dX3_setHeight_5 : decode cX3_setHeight 5 = .ok (.bipush 20, 2) := by decide +kernel
theorem dX3_setHeight_7 : decode cX3_setHeight 7 = .ok (.imul, 1) := by decide +kernel
theorem dX3_setHeight_8 : decode cX3_setHeight 8 = .ok (.iload_n 2, 1) := by decide +kernel
theorem dX3_setHeight_9 : decode cX3_setHeight 9 = .ok (.iadd, 1) := by decide +kernel
theorem dX3_setHeight_10 : decode cX3_setHeight 10 = .ok (.iload_n 3, 1) := by decide +kernel
theorem dX3_setHeight_11 : decode cX3_setHeight 11 = .ok (.iastore, 1) := by decide +kernel
theorem dX3_setHeight_12 : decode cX3_setHeight 12 = .ok (.return_, 1) := by decide +kernel
theorem dX3_addTo_0 : decode cX3_addTo 0 = .ok (.aload_n 0, 1) := by decide +kernel
theorem dX3_addTo_1 : decode cX3_addTo 1 = .ok (.getfield 9, 3) := by decide +kernel
theorem dX3_addTo_4 : decode cX3_addTo 4 = .ok (.iload_n 1, 1) := by decide +kernel
theorem dX3_addTo_5 : decode cX3_addTo 5 = .ok (.bipush 20, 2) := by decide +kernel
theorem dX3_addTo_7 : decode cX3_addTo 7 = .ok (.imul, 1) := by decide +kernel
theorem dX3_addTo_8 : decode cX3_addTo 8 = .ok (.iload_n 2, 1) := by decide +kernel
theorem dX3_addTo_9 : decode cX3_addTo 9 = .ok (.iadd, 1) := by decide +kernel
theorem dX3_addTo_10 : decode cX3_addTo 10 = .ok (.dup2, 1) := by decide +kernel
theorem dX3_addTo_11 : decode cX3_addTo 11 = .ok (.iaload, 1) := by decide +kernel
theorem dX3_addTo_12 : decode cX3_addTo 12 = .ok (.iload_n 3, 1) := by decide +kernel
theorem dX3_addTo_13 : decode cX3_addTo 13 = .ok (.iadd, 1) := by decide +kernel
theorem dX3_addTo_14 : decode cX3_addTo 14 = .ok (.iastore, 1) := by decide +kernel
theorem dX3_addTo_15 : decode cX3_addTo 15 = .ok (.return_, 1) := by decide +kernel
theorem dX3_between_0 : decode cX3_between 0 = .ok (.iconst 0, 1) := by decide +kernel
theorem dX3_between_1 : decode cX3_between 1 = .ok (.istore_n 3, 1) := by decide +kernel
theorem dX3_between_2 : decode cX3_between 2 = .ok (.iconst 0, 1) := by decide +kernel
theorem dX3_between_3 : decode cX3_between 3 = .ok (.istore 4, 2) := by decide +kernel
theorem dX3_between_5 : decode cX3_between 5 = .ok (.iload 4, 2) := by decide +kernel
theorem dX3_between_7 : decode cX3_between 7 = .ok (.iconst 4, 1) := by decide +kernel
theorem dX3_between_8 : decode cX3_between 8 = .ok (.if_icmp .ge 35, 3) := by decide +kernel
theorem dX3_between_11 : decode cX3_between 11 = .ok (.iload_n 1, 1) := by decide +kernel
theorem dX3_between_12 : decode cX3_between 12 = .ok (.istore 5, 2) := by decide +kernel
theorem dX3_between_14 : decode cX3_between 14 = .ok (.iload 5, 2) := by decide +kernel
theorem dX3_between_16 : decode cX3_between 16 = .ok (.iload_n 2, 1) := by decide +kernel
theorem dX3_between_17 : decode cX3_between 17 = .ok (.if_icmp .gt 20, 3) := by decide +kernel
theorem dX3_between_20 : decode cX3_between 20 = .ok (.iload_n 3, 1) := by decide +kernel
theorem dX3_between_21 : decode cX3_between 21 = .ok (.aload_n 0, 1) := by decide +kernel
theorem dX3_between_22 : decode cX3_between 22 = .ok (.iload 4, 2) := by decide +kernel
theorem dX3_between_24 : decode cX3_between 24 = .ok (.iload 5, 2) := by decide +kernel
theorem dX3_between_26 : decode cX3_between 26 = .ok (.invokevirtual 28, 3) := by decide +kernel
theorem dX3_between_29 : decode cX3_between 29 = .ok (.iadd, 1) := by decide +kernel
theorem dX3_between_30 : decode cX3_between 30 = .ok (.istore_n 3, 1) := by decide +kernel
theorem dX3_between_31 : decode cX3_between 31 = .ok (.iinc 5 1, 3) := by decide +kernel
theorem dX3_between_34 : decode cX3_between 34 = .ok (.goto (-20), 3) := by decide +kernel
theorem dX3_between_37 : decode cX3_between 37 = .ok (.iinc 4 1, 3) := by decide +kernel
theorem dX3_between_40 : decode cX3_between 40 = .ok (.goto (-35), 3) := by decide +kernel
theorem dX3_between_43 : decode cX3_between 43 = .ok (.iload_n 3, 1) := by decide +kernel
theorem dX3_between_44 : decode cX3_between 44 = .ok (.ireturn, 1) := by decide +kernel
theorem dX3_all_0 : decode cX3_all 0 = .ok (.aload_n 0, 1) := by decide +kernel
theorem dX3_all_1 : decode cX3_all 1 = .ok (.iconst 0, 1) := by decide +kernel
theorem dX3_all_2 : decode cX3_all 2 = .ok (.bipush 19, 2) := by decide +kernel
theorem dX3_all_4 : decode cX3_all 4 = .ok (.invokevirtual 32, 3) := by decide +kernel
theorem dX3_all_7 : decode cX3_all 7 = .ok (.ireturn, 1) := by decide +kernel
theorem dX3_inRow_0 : decode cX3_inRow 0 = .ok (.iconst 0, 1) := by decide +kernel
theorem dX3_inRow_1 : decode cX3_inRow 1 = .ok (.istore_n 2, 1) := by decide +kernel
theorem dX3_inRow_2 : decode cX3_inRow 2 = .ok (.iconst 0, 1) := by decide +kernel
theorem dX3_inRow_3 : decode cX3_inRow 3 = .ok (.istore_n 3, 1) := by decide +kernel
theorem dX3_inRow_4 : decode cX3_inRow 4 = .ok (.iload_n 3, 1) := by decide +kernel
theorem dX3_inRow_5 : decode cX3_inRow 5 = .ok (.bipush 20, 2) := by decide +kernel
theorem dX3_inRow_7 : decode cX3_inRow 7 = .ok (.if_icmp .ge 18, 3) := by decide +kernel
theorem dX3_inRow_10 : decode cX3_inRow 10 = .ok (.iload_n 2, 1) := by decide +kernel
theorem dX3_inRow_11 : decode cX3_inRow 11 = .ok (.aload_n 0, 1) := by decide +kernel
theorem dX3_inRow_12 : decode cX3_inRow 12 = .ok (.iload_n 1, 1) := by decide +kernel
theorem dX3_inRow_13 : decode cX3_inRow 13 = .ok (.iload_n 3, 1) := by decide +kernel
theorem dX3_inRow_14 : decode cX3_inRow 14 = .ok (.invokevirtual 28, 3) := by decide +kernel
theorem dX3_inRow_17 : decode cX3_inRow 17 = .ok (.iadd, 1) := by decide +kernel
theorem dX3_inRow_18 : decode cX3_inRow 18 = .ok (.istore_n 2, 1) := by decide +kernel
theorem dX3_inRow_19 : decode cX3_inRow 19 = .ok (.iinc 3 1, 3) := by decide +kernel
theorem dX3_inRow_22 : decode cX3_inRow 22 = .ok (.goto (-18), 3) := by decide +kernel
theorem dX3_inRow_25 : decode cX3_inRow 25 = .ok (.iload_n 2, 1) := by decide +kernel
theorem dX3_inRow_26 : decode cX3_inRow 26 = .ok (.ireturn, 1) := by decide +kernel
theorem dX3_isDry_0 : decode cX3_isDry 0 = .ok (.iload_n 3, 1) := by decide +kernel
theorem dX3_isDry_1 : decode cX3_isDry 1 = .ok (.aload_n 0, 1) := by decide +kernel
theorem dX3_isDry_2 : decode cX3_isDry 2 = .ok (.iload_n 1, 1) := by decide +kernel
theorem dX3_isDry_3 : decode cX3_isDry 3 = .ok (.iload_n 2, 1) := by decide +kernel
theorem dX3_isDry_4 : decode cX3_isDry 4 = .ok (.invokevirtual 28, 3) := by decide +kernel
theorem dX3_isDry_7 : decode cX3_isDry 7 = .ok (.if_icmp .gt 7, 3) := by decide +kernel
theorem dX3_isDry_10 : decode cX3_isDry 10 = .ok (.iconst 1, 1) := by decide +kernel
theorem dX3_isDry_11 : decode cX3_isDry 11 = .ok (.goto 4, 3) := by decide +kernel
theorem dX3_isDry_14 : decode cX3_isDry 14 = .ok (.iconst 0, 1) := by decide +kernel
theorem dX3_isDry_15 : decode cX3_isDry 15 = .ok (.ireturn, 1) := by decide +kernel
theorem dX3_isBar_0 : decode cX3_isBar 0 = .ok (.iload_n 2, 1) := by decide +kernel
theorem dX3_isBar_1 : decode cX3_isBar 1 = .ok (.iconst 1, 1) := by decide +kernel
theorem dX3_isBar_2 : decode cX3_isBar 2 = .ok (.if_icmp .lt 9, 3) := by decide +kernel
theorem dX3_isBar_5 : decode cX3_isBar 5 = .ok (.iload_n 2, 1) := by decide +kernel
theorem dX3_isBar_6 : decode cX3_isBar 6 = .ok (.bipush 19, 2) := by decide +kernel
theorem dX3_isBar_8 : decode cX3_isBar 8 = .ok (.if_icmp .lt 5, 3) := by decide +kernel
theorem dX3_isBar_11 : decode cX3_isBar 11 = .ok (.iconst 0, 1) := by decide +kernel
theorem dX3_isBar_12 : decode cX3_isBar 12 = .ok (.ireturn, 1) := by decide +kernel
theorem dX3_isBar_13 : decode cX3_isBar 13 = .ok (.iload_n 1, 1) := by decide +kernel
theorem dX3_isBar_14 : decode cX3_isBar 14 = .ok (.bipush 20, 2) := by decide +kernel
theorem dX3_isBar_16 : decode cX3_isBar 16 = .ok (.imul, 1) := by decide +kernel
theorem dX3_isBar_17 : decode cX3_isBar 17 = .ok (.iload_n 2, 1) := by decide +kernel
theorem dX3_isBar_18 : decode cX3_isBar 18 = .ok (.iadd, 1) := by decide +kernel
theorem dX3_isBar_19 : decode cX3_isBar 19 = .ok (.istore 4, 2) := by decide +kernel
theorem dX3_isBar_21 : decode cX3_isBar 21 = .ok (.aload_n 0, 1) := by decide +kernel
theorem dX3_isBar_22 : decode cX3_isBar 22 = .ok (.getfield 9, 3) := by decide +kernel
theorem dX3_isBar_25 : decode cX3_isBar 25 = .ok (.iload 4, 2) := by decide +kernel
theorem dX3_isBar_27 : decode cX3_isBar 27 = .ok (.iaload, 1) := by decide +kernel
theorem dX3_isBar_28 : decode cX3_isBar 28 = .ok (.istore 5, 2) := by decide +kernel
theorem dX3_isBar_30 : decode cX3_isBar 30 = .ok (.iload 5, 2) := by decide +kernel
theorem dX3_isBar_32 : decode cX3_isBar 32 = .ok (.iload_n 3, 1) := by decide +kernel
theorem dX3_isBar_33 : decode cX3_isBar 33 = .ok (.if_icmp .ge 35, 3) := by decide +kernel
theorem dX3_isBar_36 : decode cX3_isBar 36 = .ok (.iload 5, 2) := by decide +kernel
theorem dX3_isBar_38 : decode cX3_isBar 38 = .ok (.aload_n 0, 1) := by decide +kernel
theorem dX3_isBar_39 : decode cX3_isBar 39 = .ok (.getfield 9, 3) := by decide +kernel
theorem dX3_isBar_42 : decode cX3_isBar 42 = .ok (.iload 4, 2) := by decide +kernel
theorem dX3_isBar_44 : decode cX3_isBar 44 = .ok (.iconst 1, 1) := by decide +kernel
theorem dX3_isBar_45 : decode cX3_isBar 45 = .ok (.isub, 1) := by decide +kernel
theorem dX3_isBar_46 : decode cX3_isBar 46 = .ok (.iaload, 1) := by decide +kernel
theorem dX3_isBar_47 : decode cX3_isBar 47 = .ok (.if_icmp .le 21, 3) := by decide +kernel
theorem dX3_isBar_50 : decode cX3_isBar 50 = .ok (.iload 5, 2) := by decide +kernel
theorem dX3_isBar_52 : decode cX3_isBar 52 = .ok (.aload_n 0, 1) := by decide +kernel
theorem dX3_isBar_53 : decode cX3_isBar 53 = .ok (.getfield 9, 3) := by decide +kernel
theorem dX3_isBar_56 : decode cX3_isBar 56 = .ok (.iload 4, 2) := by decide +kernel
theorem dX3_isBar_58 : decode cX3_isBar 58 = .ok (.iconst 1, 1) := by decide +kernel
theorem dX3_isBar_59 : decode cX3_isBar 59 = .ok (.iadd, 1) := by decide +kernel
theorem dX3_isBar_60 : decode cX3_isBar 60 = .ok (.iaload, 1) := by decide +kernel
theorem dX3_isBar_61 : decode cX3_isBar 61 = .ok (.if_icmp .le 7, 3) := by decide +kernel
theorem dX3_isBar_64 : decode cX3_isBar 64 = .ok (.iconst 1, 1) := by decide +kernel
theorem dX3_isBar_65 : decode cX3_isBar 65 = .ok (.goto 4, 3) := by decide +kernel
theorem dX3_isBar_68 : decode cX3_isBar 68 = .ok (.iconst 0, 1) := by decide +kernel
theorem dX3_isBar_69 : decode cX3_isBar 69 = .ok (.ireturn, 1) := by decide +kernel
theorem dX3_isGap_0 : decode cX3_isGap 0 = .ok (.iload_n 2, 1) := by decide +kernel
theorem dX3_isGap_1 : decode cX3_isGap 1 = .ok (.iconst 1, 1) := by decide +kernel
theorem dX3_isGap_2 : decode cX3_isGap 2 = .ok (.if_icmp .lt 29, 3) := by decide +kernel
theorem dX3_isGap_5 : decode cX3_isGap 5 = .ok (.iload_n 2, 1) := by decide +kernel
theorem dX3_isGap_6 : decode cX3_isGap 6 = .ok (.bipush 19, 2) := by decide +kernel
theorem dX3_isGap_8 : decode cX3_isGap 8 = .ok (.if_icmp .ge 23, 3) := by decide +kernel
theorem dX3_isGap_11 : decode cX3_isGap 11 = .ok (.aload_n 0, 1) := by decide +kernel
theorem dX3_isGap_12 : decode cX3_isGap 12 = .ok (.iload_n 1, 1) := by decide +kernel
theorem dX3_isGap_13 : decode cX3_isGap 13 = .ok (.iload_n 2, 1) := by decide +kernel
theorem dX3_isGap_14 : decode cX3_isGap 14 = .ok (.iload_n 3, 1) := by decide +kernel
theorem dX3_isGap_15 : decode cX3_isGap 15 = .ok (.invokevirtual 35, 3) := by decide +kernel
theorem dX3_isGap_18 : decode cX3_isGap 18 = .ok (.ifCond .ne 13, 3) := by decide +kernel
theorem dX3_isGap_21 : decode cX3_isGap 21 = .ok (.aload_n 0, 1) := by decide +kernel
theorem dX3_isGap_22 : decode cX3_isGap 22 = .ok (.iload_n 1, 1) := by decide +kernel
theorem dX3_isGap_23 : decode cX3_isGap 23 = .ok (.iload_n 2, 1) := by decide +kernel
theorem dX3_isGap_24 : decode cX3_isGap 24 = .ok (.iload_n 3, 1) := by decide +kernel
theorem dX3_isGap_25 : decode cX3_isGap 25 = .ok (.invokevirtual 39, 3) := by decide +kernel
theorem dX3_isGap_28 : decode cX3_isGap 28 = .ok (.ifCond .eq 5, 3) := by decide +kernel
theorem dX3_isGap_31 : decode cX3_isGap 31 = .ok (.iconst 0, 1) := by decide +kernel
theorem dX3_isGap_32 : decode cX3_isGap 32 = .ok (.ireturn, 1) := by decide +kernel
theorem dX3_isGap_33 : decode cX3_isGap 33 = .ok (.aload_n 0, 1) := by decide +kernel
theorem dX3_isGap_34 : decode cX3_isGap 34 = .ok (.iload_n 1, 1) := by decide +kernel
theorem dX3_isGap_35 : decode cX3_isGap 35 = .ok (.iload_n 2, 1) := by decide +kernel
theorem dX3_isGap_36 : decode cX3_isGap 36 = .ok (.invokevirtual 28, 3) := by decide +kernel
theorem dX3_isGap_39 : decode cX3_isGap 39 = .ok (.iload 4, 2) := by decide +kernel
theorem dX3_isGap_41 : decode cX3_isGap 41 = .ok (.iadd, 1) := by decide +kernel
theorem dX3_isGap_42 : decode cX3_isGap 42 = .ok (.istore 5, 2) := by decide +kernel
theorem dX3_isGap_44 : decode cX3_isGap 44 = .ok (.iload_n 1, 1) := by decide +kernel
theorem dX3_isGap_45 : decode cX3_isGap 45 = .ok (.ifCond .le 17, 3) := by decide +kernel
theorem dX3_isGap_48 : decode cX3_isGap 48 = .ok (.aload_n 0, 1) := by decide +kernel
theorem dX3_isGap_49 : decode cX3_isGap 49 = .ok (.iload_n 1, 1) := by decide +kernel
theorem dX3_isGap_50 : decode cX3_isGap 50 = .ok (.iconst 1, 1) := by decide +kernel
theorem dX3_isGap_51 : decode cX3_isGap 51 = .ok (.isub, 1) := by decide +kernel
theorem dX3_isGap_52 : decode cX3_isGap 52 = .ok (.iload_n 2, 1) := by decide +kernel
theorem dX3_isGap_53 : decode cX3_isGap 53 = .ok (.iload_n 3, 1) := by decide +kernel
theorem dX3_isGap_54 : decode cX3_isGap 54 = .ok (.iload 5, 2) := by decide +kernel
theorem dX3_isGap_56 : decode cX3_isGap 56 = .ok (.invokevirtual 42, 3) := by decide +kernel
theorem dX3_isGap_59 : decode cX3_isGap 59 = .ok (.ifCond .ne 22, 3) := by decide +kernel
theorem dX3_isGap_62 : decode cX3_isGap 62 = .ok (.iload_n 1, 1) := by decide +kernel
theorem dX3_isGap_63 : decode cX3_isGap 63 = .ok (.iconst 3, 1) := by decide +kernel
theorem dX3_isGap_64 : decode cX3_isGap 64 = .ok (.if_icmp .ge 21, 3) := by decide +kernel
theorem dX3_isGap_67 : decode cX3_isGap 67 = .ok (.aload_n 0, 1) := by decide +kernel
theorem dX3_isGap_68 : decode cX3_isGap 68 = .ok (.iload_n 1, 1) := by decide +kernel
theorem dX3_isGap_69 : decode cX3_isGap 69 = .ok (.iconst 1, 1) := by decide +kernel
theorem dX3_isGap_70 : decode cX3_isGap 70 = .ok (.iadd, 1) := by decide +kernel
theorem dX3_isGap_71 : decode cX3_isGap 71 = .ok (.iload_n 2, 1) := by decide +kernel
theorem dX3_isGap_72 : decode cX3_isGap 72 = .ok (.iload_n 3, 1) := by decide +kernel
theorem dX3_isGap_73 : decode cX3_isGap 73 = .ok (.iload 5, 2) := by decide +kernel
theorem dX3_isGap_75 : decode cX3_isGap 75 = .ok (.invokevirtual 42, 3) := by decide +kernel
theorem dX3_isGap_78 : decode cX3_isGap 78 = .ok (.ifCond .eq 7, 3) := by decide +kernel
theorem dX3_isGap_81 : decode cX3_isGap 81 = .ok (.iconst 1, 1) := by decide +kernel
theorem dX3_isGap_82 : decode cX3_isGap 82 = .ok (.goto 4, 3) := by decide +kernel
theorem dX3_isGap_85 : decode cX3_isGap 85 = .ok (.iconst 0, 1) := by decide +kernel
theorem dX3_isGap_86 : decode cX3_isGap 86 = .ok (.ireturn, 1) := by decide +kernel
theorem dX3_isBarFrom_0 : decode cX3_isBarFrom 0 = .ok (.aload_n 0, 1) := by decide +kernel
theorem dX3_isBarFrom_1 : decode cX3_isBarFrom 1 = .ok (.iload_n 1, 1) := by decide +kernel
theorem dX3_isBarFrom_2 : decode cX3_isBarFrom 2 = .ok (.iload_n 2, 1) := by decide +kernel
theorem dX3_isBarFrom_3 : decode cX3_isBarFrom 3 = .ok (.invokevirtual 28, 3) := by decide +kernel
theorem dX3_isBarFrom_6 : decode cX3_isBarFrom 6 = .ok (.iload 4, 2) := by decide +kernel
theorem dX3_isBarFrom_8 : decode cX3_isBarFrom 8 = .ok (.if_icmp .lt 17, 3) := by decide +kernel
theorem dX3_isBarFrom_11 : decode cX3_isBarFrom 11 = .ok (.aload_n 0, 1) := by decide +kernel
theorem dX3_isBarFrom_12 : decode cX3_isBarFrom 12 = .ok (.iload_n 1, 1) := by decide +kernel
theorem dX3_isBarFrom_13 : decode cX3_isBarFrom 13 = .ok (.iload_n 2, 1) := by decide +kernel
theorem dX3_isBarFrom_14 : decode cX3_isBarFrom 14 = .ok (.iload_n 3, 1) := by decide +kernel
theorem dX3_isBarFrom_15 : decode cX3_isBarFrom 15 = .ok (.invokevirtual 39, 3) := by decide +kernel
theorem dX3_isBarFrom_18 : decode cX3_isBarFrom 18 = .ok (.ifCond .eq 7, 3) := by decide +kernel
theorem dX3_isBarFrom_21 : decode cX3_isBarFrom 21 = .ok (.iconst 1, 1) := by decide +kernel
theorem dX3_isBarFrom_22 : decode cX3_isBarFrom 22 = .ok (.goto 4, 3) := by decide +kernel
theorem dX3_isBarFrom_25 : decode cX3_isBarFrom 25 = .ok (.iconst 0, 1) := by decide +kernel
theorem dX3_isBarFrom_26 : decode cX3_isBarFrom 26 = .ok (.ireturn, 1) := by decide +kernel
theorem dX3_bars_0 : decode cX3_bars 0 = .ok (.iconst 0, 1) := by decide +kernel
theorem dX3_bars_1 : decode cX3_bars 1 = .ok (.istore_n 3, 1) := by decide +kernel
theorem dX3_bars_2 : decode cX3_bars 2 = .ok (.iconst 1, 1) := by decide +kernel
theorem dX3_bars_3 : decode cX3_bars 3 = .ok (.istore 4, 2) := by decide +kernel
theorem dX3_bars_5 : decode cX3_bars 5 = .ok (.iload 4, 2) := by decide +kernel
theorem dX3_bars_7 : decode cX3_bars 7 = .ok (.bipush 19, 2) := by decide +kernel
theorem dX3_bars_9 : decode cX3_bars 9 = .ok (.if_icmp .ge 27, 3) := by decide +kernel
theorem dX3_bars_12 : decode cX3_bars 12 = .ok (.aload_n 0, 1) := by decide +kernel
theorem dX3_bars_13 : decode cX3_bars 13 = .ok (.iload_n 1, 1) := by decide +kernel
theorem dX3_bars_14 : decode cX3_bars 14 = .ok (.iload 4, 2) := by decide +kernel
theorem dX3_bars_16 : decode cX3_bars 16 = .ok (.iload_n 2, 1) := by decide +kernel
theorem dX3_bars_17 : decode cX3_bars 17 = .ok (.invokevirtual 39, 3) := by decide +kernel
theorem dX3_bars_20 : decode cX3_bars 20 = .ok (.ifCond .eq 10, 3) := by decide +kernel
theorem dX3_bars_23 : decode cX3_bars 23 = .ok (.iload_n 3, 1) := by decide +kernel
theorem dX3_bars_24 : decode cX3_bars 24 = .ok (.iconst 1, 1) := by decide +kernel
theorem dX3_bars_25 : decode cX3_bars 25 = .ok (.iload 4, 2) := by decide +kernel
theorem dX3_bars_27 : decode cX3_bars 27 = .ok (.ishl, 1) := by decide +kernel
theorem dX3_bars_28 : decode cX3_bars 28 = .ok (.ior, 1) := by decide +kernel
theorem dX3_bars_29 : decode cX3_bars 29 = .ok (.istore_n 3, 1) := by decide +kernel
theorem dX3_bars_30 : decode cX3_bars 30 = .ok (.iinc 4 1, 3) := by decide +kernel
theorem dX3_bars_33 : decode cX3_bars 33 = .ok (.goto (-28), 3) := by decide +kernel
theorem dX3_bars_36 : decode cX3_bars 36 = .ok (.iload_n 3, 1) := by decide +kernel
theorem dX3_bars_37 : decode cX3_bars 37 = .ok (.ireturn, 1) := by decide +kernel
theorem dX3_gaps_0 : decode cX3_gaps 0 = .ok (.iconst 0, 1) := by decide +kernel
theorem dX3_gaps_1 : decode cX3_gaps 1 = .ok (.istore 4, 2) := by decide +kernel
theorem dX3_gaps_3 : decode cX3_gaps 3 = .ok (.iconst 1, 1) := by decide +kernel
theorem dX3_gaps_4 : decode cX3_gaps 4 = .ok (.istore 5, 2) := by decide +kernel
theorem dX3_gaps_6 : decode cX3_gaps 6 = .ok (.iload 5, 2) := by decide +kernel
theorem dX3_gaps_8 : decode cX3_gaps 8 = .ok (.bipush 19, 2) := by decide +kernel
theorem dX3_gaps_10 : decode cX3_gaps 10 = .ok (.if_icmp .ge 30, 3) := by decide +kernel
theorem dX3_gaps_13 : decode cX3_gaps 13 = .ok (.aload_n 0, 1) := by decide +kernel
theorem dX3_gaps_14 : decode cX3_gaps 14 = .ok (.iload_n 1, 1) := by decide +kernel
theorem dX3_gaps_15 : decode cX3_gaps 15 = .ok (.iload 5, 2) := by decide +kernel
theorem dX3_gaps_17 : decode cX3_gaps 17 = .ok (.iload_n 2, 1) := by decide +kernel
theorem dX3_gaps_18 : decode cX3_gaps 18 = .ok (.iload_n 3, 1) := by decide +kernel
theorem dX3_gaps_19 : decode cX3_gaps 19 = .ok (.invokevirtual 46, 3) := by decide +kernel
theorem dX3_gaps_22 : decode cX3_gaps 22 = .ok (.ifCond .eq 12, 3) := by decide +kernel
theorem dX3_gaps_25 : decode cX3_gaps 25 = .ok (.iload 4, 2) := by decide +kernel
theorem dX3_gaps_27 : decode cX3_gaps 27 = .ok (.iconst 1, 1) := by decide +kernel
theorem dX3_gaps_28 : decode cX3_gaps 28 = .ok (.iload 5, 2) := by decide +kernel
theorem dX3_gaps_30 : decode cX3_gaps 30 = .ok (.ishl, 1) := by decide +kernel
theorem dX3_gaps_31 : decode cX3_gaps 31 = .ok (.ior, 1) := by decide +kernel
theorem dX3_gaps_32 : decode cX3_gaps 32 = .ok (.istore 4, 2) := by decide +kernel
theorem dX3_gaps_34 : decode cX3_gaps 34 = .ok (.iinc 5 1, 3) := by decide +kernel
theorem dX3_gaps_37 : decode cX3_gaps 37 = .ok (.goto (-31), 3) := by decide +kernel
theorem dX3_gaps_40 : decode cX3_gaps 40 = .ok (.iload 4, 2) := by decide +kernel
theorem dX3_gaps_42 : decode cX3_gaps 42 = .ok (.ireturn, 1) := by decide +kernel
theorem dX3_allBars_0 : decode cX3_allBars 0 = .ok (.iconst 0, 1) := by decide +kernel
theorem dX3_allBars_1 : decode cX3_allBars 1 = .ok (.istore_n 2, 1) := by decide +kernel
theorem dX3_allBars_2 : decode cX3_allBars 2 = .ok (.iconst 0, 1) := by decide +kernel
theorem dX3_allBars_3 : decode cX3_allBars 3 = .ok (.istore_n 3, 1) := by decide +kernel
theorem dX3_allBars_4 : decode cX3_allBars 4 = .ok (.iload_n 3, 1) := by decide +kernel
theorem dX3_allBars_5 : decode cX3_allBars 5 = .ok (.iconst 4, 1) := by decide +kernel
theorem dX3_allBars_6 : decode cX3_allBars 6 = .ok (.if_icmp .ge 21, 3) := by decide +kernel
theorem dX3_allBars_9 : decode cX3_allBars 9 = .ok (.iload_n 2, 1) := by decide +kernel
theorem dX3_allBars_10 : decode cX3_allBars 10 = .ok (.aload_n 0, 1) := by decide +kernel
theorem dX3_allBars_11 : decode cX3_allBars 11 = .ok (.iload_n 3, 1) := by decide +kernel
theorem dX3_allBars_12 : decode cX3_allBars 12 = .ok (.iload_n 1, 1) := by decide +kernel
theorem dX3_allBars_13 : decode cX3_allBars 13 = .ok (.invokevirtual 49, 3) := by decide +kernel
theorem dX3_allBars_16 : decode cX3_allBars 16 = .ok (.invokestatic 52, 3) := by decide +kernel
theorem dX3_allBars_19 : decode cX3_allBars 19 = .ok (.iadd, 1) := by decide +kernel
theorem dX3_allBars_20 : decode cX3_allBars 20 = .ok (.istore_n 2, 1) := by decide +kernel
theorem dX3_allBars_21 : decode cX3_allBars 21 = .ok (.iinc 3 1, 3) := by decide +kernel
theorem dX3_allBars_24 : decode cX3_allBars 24 = .ok (.goto (-20), 3) := by decide +kernel
theorem dX3_allBars_27 : decode cX3_allBars 27 = .ok (.iload_n 2, 1) := by decide +kernel
theorem dX3_allBars_28 : decode cX3_allBars 28 = .ok (.ireturn, 1) := by decide +kernel
theorem dX3_allGaps_0 : decode cX3_allGaps 0 = .ok (.iconst 0, 1) := by decide +kernel
theorem dX3_allGaps_1 : decode cX3_allGaps 1 = .ok (.istore_n 3, 1) := by decide +kernel
theorem dX3_allGaps_2 : decode cX3_allGaps 2 = .ok (.iconst 0, 1) := by decide +kernel
theorem dX3_allGaps_3 : decode cX3_allGaps 3 = .ok (.istore 4, 2) := by decide +kernel
theorem dX3_allGaps_5 : decode cX3_allGaps 5 = .ok (.iload 4, 2) := by decide +kernel
theorem dX3_allGaps_7 : decode cX3_allGaps 7 = .ok (.iconst 4, 1) := by decide +kernel
theorem dX3_allGaps_8 : decode cX3_allGaps 8 = .ok (.if_icmp .ge 23, 3) := by decide +kernel
theorem dX3_allGaps_11 : decode cX3_allGaps 11 = .ok (.iload_n 3, 1) := by decide +kernel
theorem dX3_allGaps_12 : decode cX3_allGaps 12 = .ok (.aload_n 0, 1) := by decide +kernel
theorem dX3_allGaps_13 : decode cX3_allGaps 13 = .ok (.iload 4, 2) := by decide +kernel
theorem dX3_allGaps_15 : decode cX3_allGaps 15 = .ok (.iload_n 1, 1) := by decide +kernel
theorem dX3_allGaps_16 : decode cX3_allGaps 16 = .ok (.iload_n 2, 1) := by decide +kernel
theorem dX3_allGaps_17 : decode cX3_allGaps 17 = .ok (.invokevirtual 57, 3) := by decide +kernel
theorem dX3_allGaps_20 : decode cX3_allGaps 20 = .ok (.invokestatic 52, 3) := by decide +kernel
theorem dX3_allGaps_23 : decode cX3_allGaps 23 = .ok (.iadd, 1) := by decide +kernel
theorem dX3_allGaps_24 : decode cX3_allGaps 24 = .ok (.istore_n 3, 1) := by decide +kernel
theorem dX3_allGaps_25 : decode cX3_allGaps 25 = .ok (.iinc 4 1, 3) := by decide +kernel
theorem dX3_allGaps_28 : decode cX3_allGaps 28 = .ok (.goto (-23), 3) := by decide +kernel
theorem dX3_allGaps_31 : decode cX3_allGaps 31 = .ok (.iload_n 3, 1) := by decide +kernel
theorem dX3_allGaps_32 : decode cX3_allGaps 32 = .ok (.ireturn, 1) := by decide +kernel
theorem dX3_allDry_0 : decode cX3_allDry 0 = .ok (.iconst 0, 1) := by decide +kernel
theorem dX3_allDry_1 : decode cX3_allDry 1 = .ok (.istore_n 2, 1) := by decide +kernel
theorem dX3_allDry_2 : decode cX3_allDry 2 = .ok (.iconst 0, 1) := by decide +kernel
theorem dX3_allDry_3 : decode cX3_allDry 3 = .ok (.istore_n 3, 1) := by decide +kernel
theorem dX3_allDry_4 : decode cX3_allDry 4 = .ok (.iload_n 3, 1) := by decide +kernel
theorem dX3_allDry_5 : decode cX3_allDry 5 = .ok (.iconst 4, 1) := by decide +kernel
theorem dX3_allDry_6 : decode cX3_allDry 6 = .ok (.if_icmp .ge 39, 3) := by decide +kernel
theorem dX3_allDry_9 : decode cX3_allDry 9 = .ok (.iconst 0, 1) := by decide +kernel
theorem dX3_allDry_10 : decode cX3_allDry 10 = .ok (.istore 4, 2) := by decide +kernel
theorem dX3_allDry_12 : decode cX3_allDry 12 = .ok (.iload 4, 2) := by decide +kernel
theorem dX3_allDry_14 : decode cX3_allDry 14 = .ok (.bipush 20, 2) := by decide +kernel
theorem dX3_allDry_16 : decode cX3_allDry 16 = .ok (.if_icmp .ge 23, 3) := by decide +kernel
theorem dX3_allDry_19 : decode cX3_allDry 19 = .ok (.aload_n 0, 1) := by decide +kernel
theorem dX3_allDry_20 : decode cX3_allDry 20 = .ok (.iload_n 3, 1) := by decide +kernel
theorem dX3_allDry_21 : decode cX3_allDry 21 = .ok (.iload 4, 2) := by decide +kernel
theorem dX3_allDry_23 : decode cX3_allDry 23 = .ok (.iload_n 1, 1) := by decide +kernel
theorem dX3_allDry_24 : decode cX3_allDry 24 = .ok (.invokevirtual 35, 3) := by decide +kernel
theorem dX3_allDry_27 : decode cX3_allDry 27 = .ok (.ifCond .eq 6, 3) := by decide +kernel
theorem dX3_allDry_30 : decode cX3_allDry 30 = .ok (.iinc 2 1, 3) := by decide +kernel
theorem dX3_allDry_33 : decode cX3_allDry 33 = .ok (.iinc 4 1, 3) := by decide +kernel
theorem dX3_allDry_36 : decode cX3_allDry 36 = .ok (.goto (-24), 3) := by decide +kernel
theorem dX3_allDry_39 : decode cX3_allDry 39 = .ok (.iinc 3 1, 3) := by decide +kernel
theorem dX3_allDry_42 : decode cX3_allDry 42 = .ok (.goto (-38), 3) := by decide +kernel
theorem dX3_allDry_45 : decode cX3_allDry 45 = .ok (.iload_n 2, 1) := by decide +kernel
theorem dX3_allDry_46 : decode cX3_allDry 46 = .ok (.ireturn, 1) := by decide +kernel
theorem dX3_lastDry_0 : decode cX3_lastDry 0 = .ok (.bipush 19, 2) := by decide +kernel
theorem dX3_lastDry_2 : decode cX3_lastDry 2 = .ok (.istore_n 3, 1) := by decide +kernel
theorem dX3_lastDry_3 : decode cX3_lastDry 3 = .ok (.iload_n 3, 1) := by decide +kernel
theorem dX3_lastDry_4 : decode cX3_lastDry 4 = .ok (.ifCond .lt 21, 3) := by decide +kernel
theorem dX3_lastDry_7 : decode cX3_lastDry 7 = .ok (.aload_n 0, 1) := by decide +kernel
theorem dX3_lastDry_8 : decode cX3_lastDry 8 = .ok (.iload_n 1, 1) := by decide +kernel
theorem dX3_lastDry_9 : decode cX3_lastDry 9 = .ok (.iload_n 3, 1) := by decide +kernel
theorem dX3_lastDry_10 : decode cX3_lastDry 10 = .ok (.iload_n 2, 1) := by decide +kernel
theorem dX3_lastDry_11 : decode cX3_lastDry 11 = .ok (.invokevirtual 35, 3) := by decide +kernel
theorem dX3_lastDry_14 : decode cX3_lastDry 14 = .ok (.ifCond .eq 5, 3) := by decide +kernel
theorem dX3_lastDry_17 : decode cX3_lastDry 17 = .ok (.iload_n 3, 1) := by decide +kernel
theorem dX3_lastDry_18 : decode cX3_lastDry 18 = .ok (.ireturn, 1) := by decide +kernel
theorem dX3_lastDry_19 : decode cX3_lastDry 19 = .ok (.iinc 3 (-1), 3) := by decide +kernel
theorem dX3_lastDry_22 : decode cX3_lastDry 22 = .ok (.goto (-19), 3) := by decide +kernel
theorem dX3_lastDry_25 : decode cX3_lastDry 25 = .ok (.sipush (-1005), 3) := by decide +kernel
theorem dX3_lastDry_28 : decode cX3_lastDry 28 = .ok (.ireturn, 1) := by decide +kernel
theorem dX3_greatestDifference_0 : decode cX3_greatestDifference 0 = .ok (.iconst 0, 1) := by decide +kernel
theorem dX3_greatestDifference_1 : decode cX3_greatestDifference 1 = .ok (.istore_n 2, 1) := by decide +kernel
theorem dX3_greatestDifference_2 : decode cX3_greatestDifference 2 = .ok (.iconst 0, 1) := by decide +kernel
theorem dX3_greatestDifference_3 : decode cX3_greatestDifference 3 = .ok (.istore_n 3, 1) := by decide +kernel
theorem dX3_greatestDifference_4 : decode cX3_greatestDifference 4 = .ok (.iload_n 3, 1) := by decide +kernel
theorem dX3_greatestDifference_5 : decode cX3_greatestDifference 5 = .ok (.bipush 19, 2) := by decide +kernel
theorem dX3_greatestDifference_7 : decode cX3_greatestDifference 7 = .ok (.if_icmp .ge 32, 3) := by decide +kernel
theorem dX3_greatestDifference_10 : decode cX3_greatestDifference 10 = .ok (.iload_n 2, 1) := by decide +kernel
theorem dX3_greatestDifference_11 : decode cX3_greatestDifference 11 = .ok (.aload_n 0, 1) := by decide +kernel
theorem dX3_greatestDifference_12 : decode cX3_greatestDifference 12 = .ok (.iload_n 1, 1) := by decide +kernel
theorem dX3_greatestDifference_13 : decode cX3_greatestDifference 13 = .ok (.iload_n 3, 1) := by decide +kernel
theorem dX3_greatestDifference_14 : decode cX3_greatestDifference 14 = .ok (.invokevirtual 28, 3) := by decide +kernel
theorem dX3_greatestDifference_17 : decode cX3_greatestDifference 17 = .ok (.aload_n 0, 1) := by decide +kernel
theorem dX3_greatestDifference_18 : decode cX3_greatestDifference 18 = .ok (.iload_n 1, 1) := by decide +kernel
theorem dX3_greatestDifference_19 : decode cX3_greatestDifference 19 = .ok (.iload_n 3, 1) := by decide +kernel
theorem dX3_greatestDifference_20 : decode cX3_greatestDifference 20 = .ok (.iconst 1, 1) := by decide +kernel
theorem dX3_greatestDifference_21 : decode cX3_greatestDifference 21 = .ok (.iadd, 1) := by decide +kernel
theorem dX3_greatestDifference_22 : decode cX3_greatestDifference 22 = .ok (.invokevirtual 28, 3) := by decide +kernel
theorem dX3_greatestDifference_25 : decode cX3_greatestDifference 25 = .ok (.isub, 1) := by decide +kernel
theorem dX3_greatestDifference_26 : decode cX3_greatestDifference 26 = .ok (.invokestatic 61, 3) := by decide +kernel
theorem dX3_greatestDifference_29 : decode cX3_greatestDifference 29 = .ok (.invokestatic 66, 3) := by decide +kernel
theorem dX3_greatestDifference_32 : decode cX3_greatestDifference 32 = .ok (.istore_n 2, 1) := by decide +kernel
theorem dX3_greatestDifference_33 : decode cX3_greatestDifference 33 = .ok (.iinc 3 1, 3) := by decide +kernel
theorem dX3_greatestDifference_36 : decode cX3_greatestDifference 36 = .ok (.goto (-32), 3) := by decide +kernel
theorem dX3_greatestDifference_39 : decode cX3_greatestDifference 39 = .ok (.iload_n 2, 1) := by decide +kernel
theorem dX3_greatestDifference_40 : decode cX3_greatestDifference 40 = .ok (.ireturn, 1) := by decide +kernel
theorem dX3_highestBar_0 : decode cX3_highestBar 0 = .ok (.sipush (-1005), 3) := by decide +kernel
theorem dX3_highestBar_3 : decode cX3_highestBar 3 = .ok (.istore_n 3, 1) := by decide +kernel
theorem dX3_highestBar_4 : decode cX3_highestBar 4 = .ok (.iconst (-1), 1) := by decide +kernel
theorem dX3_highestBar_5 : decode cX3_highestBar 5 = .ok (.istore 4, 2) := by decide +kernel
theorem dX3_highestBar_7 : decode cX3_highestBar 7 = .ok (.iconst 1, 1) := by decide +kernel
theorem dX3_highestBar_8 : decode cX3_highestBar 8 = .ok (.istore 5, 2) := by decide +kernel
theorem dX3_highestBar_10 : decode cX3_highestBar 10 = .ok (.iload 5, 2) := by decide +kernel
theorem dX3_highestBar_12 : decode cX3_highestBar 12 = .ok (.bipush 19, 2) := by decide +kernel
theorem dX3_highestBar_14 : decode cX3_highestBar 14 = .ok (.if_icmp .ge 44, 3) := by decide +kernel
theorem dX3_highestBar_17 : decode cX3_highestBar 17 = .ok (.aload_n 0, 1) := by decide +kernel
theorem dX3_highestBar_18 : decode cX3_highestBar 18 = .ok (.iload_n 1, 1) := by decide +kernel
theorem dX3_highestBar_19 : decode cX3_highestBar 19 = .ok (.iload 5, 2) := by decide +kernel
theorem dX3_highestBar_21 : decode cX3_highestBar 21 = .ok (.iload_n 2, 1) := by decide +kernel
theorem dX3_highestBar_22 : decode cX3_highestBar 22 = .ok (.invokevirtual 39, 3) := by decide +kernel
theorem dX3_highestBar_25 : decode cX3_highestBar 25 = .ok (.ifCond .eq 27, 3) := by decide +kernel
theorem dX3_highestBar_28 : decode cX3_highestBar 28 = .ok (.aload_n 0, 1) := by decide +kernel
theorem dX3_highestBar_29 : decode cX3_highestBar 29 = .ok (.iload_n 1, 1) := by decide +kernel
theorem dX3_highestBar_30 : decode cX3_highestBar 30 = .ok (.iload 5, 2) := by decide +kernel
theorem dX3_highestBar_32 : decode cX3_highestBar 32 = .ok (.invokevirtual 28, 3) := by decide +kernel
theorem dX3_highestBar_35 : decode cX3_highestBar 35 = .ok (.iload 4, 2) := by decide +kernel
theorem dX3_highestBar_37 : decode cX3_highestBar 37 = .ok (.if_icmp .le 15, 3) := by decide +kernel
theorem dX3_highestBar_40 : decode cX3_highestBar 40 = .ok (.aload_n 0, 1) := by decide +kernel
theorem dX3_highestBar_41 : decode cX3_highestBar 41 = .ok (.iload_n 1, 1) := by decide +kernel
theorem dX3_highestBar_42 : decode cX3_highestBar 42 = .ok (.iload 5, 2) := by decide +kernel
theorem dX3_highestBar_44 : decode cX3_highestBar 44 = .ok (.invokevirtual 28, 3) := by decide +kernel
theorem dX3_highestBar_47 : decode cX3_highestBar 47 = .ok (.istore 4, 2) := by decide +kernel
theorem dX3_highestBar_49 : decode cX3_highestBar 49 = .ok (.iload 5, 2) := by decide +kernel
theorem dX3_highestBar_51 : decode cX3_highestBar 51 = .ok (.istore_n 3, 1) := by decide +kernel
theorem dX3_highestBar_52 : decode cX3_highestBar 52 = .ok (.iinc 5 1, 3) := by decide +kernel
theorem dX3_highestBar_55 : decode cX3_highestBar 55 = .ok (.goto (-45), 3) := by decide +kernel
theorem dX3_highestBar_58 : decode cX3_highestBar 58 = .ok (.iload_n 3, 1) := by decide +kernel
theorem dX3_highestBar_59 : decode cX3_highestBar 59 = .ok (.ireturn, 1) := by decide +kernel
theorem dX3_scour_0 : decode cX3_scour 0 = .ok (.iconst 0, 1) := by decide +kernel
theorem dX3_scour_1 : decode cX3_scour 1 = .ok (.istore_n 3, 1) := by decide +kernel
theorem dX3_scour_2 : decode cX3_scour 2 = .ok (.iload_n 3, 1) := by decide +kernel
theorem dX3_scour_3 : decode cX3_scour 3 = .ok (.iconst 4, 1) := by decide +kernel
theorem dX3_scour_4 : decode cX3_scour 4 = .ok (.if_icmp .ge 22, 3) := by decide +kernel
theorem dX3_scour_7 : decode cX3_scour 7 = .ok (.aload_n 0, 1) := by decide +kernel
theorem dX3_scour_8 : decode cX3_scour 8 = .ok (.getfield 15, 3) := by decide +kernel
theorem dX3_scour_11 : decode cX3_scour 11 = .ok (.iload_n 3, 1) := by decide +kernel
theorem dX3_scour_12 : decode cX3_scour 12 = .ok (.aload_n 0, 1) := by decide +kernel
theorem dX3_scour_13 : decode cX3_scour 13 = .ok (.iload_n 3, 1) := by decide +kernel
theorem dX3_scour_14 : decode cX3_scour 14 = .ok (.iload_n 1, 1) := by decide +kernel
theorem dX3_scour_15 : decode cX3_scour 15 = .ok (.iload_n 2, 1) := by decide +kernel
theorem dX3_scour_16 : decode cX3_scour 16 = .ok (.invokevirtual 57, 3) := by decide +kernel
theorem dX3_scour_19 : decode cX3_scour 19 = .ok (.iastore, 1) := by decide +kernel
theorem dX3_scour_20 : decode cX3_scour 20 = .ok (.iinc 3 1, 3) := by decide +kernel
theorem dX3_scour_23 : decode cX3_scour 23 = .ok (.goto (-21), 3) := by decide +kernel
theorem dX3_scour_26 : decode cX3_scour 26 = .ok (.iconst 0, 1) := by decide +kernel
theorem dX3_scour_27 : decode cX3_scour 27 = .ok (.istore_n 3, 1) := by decide +kernel
theorem dX3_scour_28 : decode cX3_scour 28 = .ok (.iconst 0, 1) := by decide +kernel
theorem dX3_scour_29 : decode cX3_scour 29 = .ok (.istore 4, 2) := by decide +kernel
theorem dX3_scour_31 : decode cX3_scour 31 = .ok (.iload 4, 2) := by decide +kernel
theorem dX3_scour_33 : decode cX3_scour 33 = .ok (.iconst 4, 1) := by decide +kernel
theorem dX3_scour_34 : decode cX3_scour 34 = .ok (.if_icmp .ge 52, 3) := by decide +kernel
theorem dX3_scour_37 : decode cX3_scour 37 = .ok (.iconst 1, 1) := by decide +kernel
theorem dX3_scour_38 : decode cX3_scour 38 = .ok (.istore 5, 2) := by decide +kernel
theorem dX3_scour_40 : decode cX3_scour 40 = .ok (.iload 5, 2) := by decide +kernel
theorem dX3_scour_42 : decode cX3_scour 42 = .ok (.bipush 19, 2) := by decide +kernel
theorem dX3_scour_44 : decode cX3_scour 44 = .ok (.if_icmp .ge 36, 3) := by decide +kernel
theorem dX3_scour_47 : decode cX3_scour 47 = .ok (.aload_n 0, 1) := by decide +kernel
theorem dX3_scour_48 : decode cX3_scour 48 = .ok (.getfield 15, 3) := by decide +kernel
theorem dX3_scour_51 : decode cX3_scour 51 = .ok (.iload 4, 2) := by decide +kernel
theorem dX3_scour_53 : decode cX3_scour 53 = .ok (.iaload, 1) := by decide +kernel
theorem dX3_scour_54 : decode cX3_scour 54 = .ok (.iload 5, 2) := by decide +kernel
theorem dX3_scour_56 : decode cX3_scour 56 = .ok (.ishr, 1) := by decide +kernel
theorem dX3_scour_57 : decode cX3_scour 57 = .ok (.iconst 1, 1) := by decide +kernel
theorem dX3_scour_58 : decode cX3_scour 58 = .ok (.iand, 1) := by decide +kernel
theorem dX3_scour_59 : decode cX3_scour 59 = .ok (.iconst 1, 1) := by decide +kernel
theorem dX3_scour_60 : decode cX3_scour 60 = .ok (.if_icmp .ne 14, 3) := by decide +kernel
theorem dX3_scour_63 : decode cX3_scour 63 = .ok (.iload_n 3, 1) := by decide +kernel
theorem dX3_scour_64 : decode cX3_scour 64 = .ok (.aload_n 0, 1) := by decide +kernel
theorem dX3_scour_65 : decode cX3_scour 65 = .ok (.iload 4, 2) := by decide +kernel
theorem dX3_scour_67 : decode cX3_scour 67 = .ok (.iload 5, 2) := by decide +kernel
theorem dX3_scour_69 : decode cX3_scour 69 = .ok (.invokevirtual 69, 3) := by decide +kernel
theorem dX3_scour_72 : decode cX3_scour 72 = .ok (.iadd, 1) := by decide +kernel
theorem dX3_scour_73 : decode cX3_scour 73 = .ok (.istore_n 3, 1) := by decide +kernel
theorem dX3_scour_74 : decode cX3_scour 74 = .ok (.iinc 5 1, 3) := by decide +kernel
theorem dX3_scour_77 : decode cX3_scour 77 = .ok (.goto (-37), 3) := by decide +kernel
theorem dX3_scour_80 : decode cX3_scour 80 = .ok (.iinc 4 1, 3) := by decide +kernel
theorem dX3_scour_83 : decode cX3_scour 83 = .ok (.goto (-52), 3) := by decide +kernel
theorem dX3_scour_86 : decode cX3_scour 86 = .ok (.iload_n 3, 1) := by decide +kernel
theorem dX3_scour_87 : decode cX3_scour 87 = .ok (.ireturn, 1) := by decide +kernel
theorem dX3_scourCell_0 : decode cX3_scourCell 0 = .ok (.aload_n 0, 1) := by decide +kernel
theorem dX3_scourCell_1 : decode cX3_scourCell 1 = .ok (.iload_n 1, 1) := by decide +kernel
theorem dX3_scourCell_2 : decode cX3_scourCell 2 = .ok (.iload_n 2, 1) := by decide +kernel
theorem dX3_scourCell_3 : decode cX3_scourCell 3 = .ok (.invokevirtual 28, 3) := by decide +kernel
theorem dX3_scourCell_6 : decode cX3_scourCell 6 = .ok (.ifCond .eq 16, 3) := by decide +kernel
theorem dX3_scourCell_9 : decode cX3_scourCell 9 = .ok (.aload_n 0, 1) := by decide +kernel
theorem dX3_scourCell_10 : decode cX3_scourCell 10 = .ok (.iload_n 1, 1) := by decide +kernel
theorem dX3_scourCell_11 : decode cX3_scourCell 11 = .ok (.iload_n 2, 1) := by decide +kernel
theorem dX3_scourCell_12 : decode cX3_scourCell 12 = .ok (.iconst 1, 1) := by decide +kernel
theorem dX3_scourCell_13 : decode cX3_scourCell 13 = .ok (.iadd, 1) := by decide +kernel
theorem dX3_scourCell_14 : decode cX3_scourCell 14 = .ok (.invokevirtual 28, 3) := by decide +kernel
theorem dX3_scourCell_17 : decode cX3_scourCell 17 = .ok (.bipush 99, 2) := by decide +kernel
theorem dX3_scourCell_19 : decode cX3_scourCell 19 = .ok (.if_icmp .lt 5, 3) := by decide +kernel
theorem dX3_scourCell_22 : decode cX3_scourCell 22 = .ok (.iconst 0, 1) := by decide +kernel
theorem dX3_scourCell_23 : decode cX3_scourCell 23 = .ok (.ireturn, 1) := by decide +kernel
theorem dX3_scourCell_24 : decode cX3_scourCell 24 = .ok (.aload_n 0, 1) := by decide +kernel
theorem dX3_scourCell_25 : decode cX3_scourCell 25 = .ok (.iload_n 1, 1) := by decide +kernel
theorem dX3_scourCell_26 : decode cX3_scourCell 26 = .ok (.iload_n 2, 1) := by decide +kernel
theorem dX3_scourCell_27 : decode cX3_scourCell 27 = .ok (.iconst (-1), 1) := by decide +kernel
theorem dX3_scourCell_28 : decode cX3_scourCell 28 = .ok (.invokevirtual 72, 3) := by decide +kernel
theorem dX3_scourCell_31 : decode cX3_scourCell 31 = .ok (.aload_n 0, 1) := by decide +kernel
theorem dX3_scourCell_32 : decode cX3_scourCell 32 = .ok (.iload_n 1, 1) := by decide +kernel
theorem dX3_scourCell_33 : decode cX3_scourCell 33 = .ok (.iload_n 2, 1) := by decide +kernel
theorem dX3_scourCell_34 : decode cX3_scourCell 34 = .ok (.iconst 1, 1) := by decide +kernel
theorem dX3_scourCell_35 : decode cX3_scourCell 35 = .ok (.iadd, 1) := by decide +kernel
theorem dX3_scourCell_36 : decode cX3_scourCell 36 = .ok (.iconst 1, 1) := by decide +kernel
theorem dX3_scourCell_37 : decode cX3_scourCell 37 = .ok (.invokevirtual 72, 3) := by decide +kernel
theorem dX3_scourCell_40 : decode cX3_scourCell 40 = .ok (.iconst 1, 1) := by decide +kernel
theorem dX3_scourCell_41 : decode cX3_scourCell 41 = .ok (.ireturn, 1) := by decide +kernel
theorem dX3_slump_0 : decode cX3_slump 0 = .ok (.iconst 0, 1) := by decide +kernel
theorem dX3_slump_1 : decode cX3_slump 1 = .ok (.istore_n 2, 1) := by decide +kernel
theorem dX3_slump_2 : decode cX3_slump 2 = .ok (.iconst 0, 1) := by decide +kernel
theorem dX3_slump_3 : decode cX3_slump 3 = .ok (.istore_n 3, 1) := by decide +kernel
theorem dX3_slump_4 : decode cX3_slump 4 = .ok (.iload_n 3, 1) := by decide +kernel
theorem dX3_slump_5 : decode cX3_slump 5 = .ok (.iconst 4, 1) := by decide +kernel
theorem dX3_slump_6 : decode cX3_slump 6 = .ok (.if_icmp .ge 18, 3) := by decide +kernel
theorem dX3_slump_9 : decode cX3_slump 9 = .ok (.iload_n 2, 1) := by decide +kernel
theorem dX3_slump_10 : decode cX3_slump 10 = .ok (.aload_n 0, 1) := by decide +kernel
theorem dX3_slump_11 : decode cX3_slump 11 = .ok (.iload_n 3, 1) := by decide +kernel
theorem dX3_slump_12 : decode cX3_slump 12 = .ok (.iload_n 1, 1) := by decide +kernel
theorem dX3_slump_13 : decode cX3_slump 13 = .ok (.invokevirtual 76, 3) := by decide +kernel
theorem dX3_slump_16 : decode cX3_slump 16 = .ok (.iadd, 1) := by decide +kernel
theorem dX3_slump_17 : decode cX3_slump 17 = .ok (.istore_n 2, 1) := by decide +kernel
theorem dX3_slump_18 : decode cX3_slump 18 = .ok (.iinc 3 1, 3) := by decide +kernel
theorem dX3_slump_21 : decode cX3_slump 21 = .ok (.goto (-17), 3) := by decide +kernel
theorem dX3_slump_24 : decode cX3_slump 24 = .ok (.iload_n 2, 1) := by decide +kernel
theorem dX3_slump_25 : decode cX3_slump 25 = .ok (.ireturn, 1) := by decide +kernel
theorem dX3_slumpRow_0 : decode cX3_slumpRow 0 = .ok (.iconst 0, 1) := by decide +kernel
theorem dX3_slumpRow_1 : decode cX3_slumpRow 1 = .ok (.istore_n 3, 1) := by decide +kernel
theorem dX3_slumpRow_2 : decode cX3_slumpRow 2 = .ok (.iconst 0, 1) := by decide +kernel
theorem dX3_slumpRow_3 : decode cX3_slumpRow 3 = .ok (.istore 4, 2) := by decide +kernel
theorem dX3_slumpRow_5 : decode cX3_slumpRow 5 = .ok (.iload 4, 2) := by decide +kernel
theorem dX3_slumpRow_7 : decode cX3_slumpRow 7 = .ok (.ldc 79, 2) := by decide +kernel
theorem dX3_slumpRow_9 : decode cX3_slumpRow 9 = .ok (.if_icmp .ge 29, 3) := by decide +kernel
theorem dX3_slumpRow_12 : decode cX3_slumpRow 12 = .ok (.aload_n 0, 1) := by decide +kernel
theorem dX3_slumpRow_13 : decode cX3_slumpRow 13 = .ok (.iload_n 1, 1) := by decide +kernel
theorem dX3_slumpRow_14 : decode cX3_slumpRow 14 = .ok (.iload_n 2, 1) := by decide +kernel
theorem dX3_slumpRow_15 : decode cX3_slumpRow 15 = .ok (.invokevirtual 80, 3) := by decide +kernel
theorem dX3_slumpRow_18 : decode cX3_slumpRow 18 = .ok (.istore 5, 2) := by decide +kernel
theorem dX3_slumpRow_20 : decode cX3_slumpRow 20 = .ok (.iload 5, 2) := by decide +kernel
theorem dX3_slumpRow_22 : decode cX3_slumpRow 22 = .ok (.ifCond .ne 5, 3) := by decide +kernel
theorem dX3_slumpRow_25 : decode cX3_slumpRow 25 = .ok (.iload_n 3, 1) := by decide +kernel
theorem dX3_slumpRow_26 : decode cX3_slumpRow 26 = .ok (.ireturn, 1) := by decide +kernel
theorem dX3_slumpRow_27 : decode cX3_slumpRow 27 = .ok (.iload_n 3, 1) := by decide +kernel
theorem dX3_slumpRow_28 : decode cX3_slumpRow 28 = .ok (.iload 5, 2) := by decide +kernel
theorem dX3_slumpRow_30 : decode cX3_slumpRow 30 = .ok (.iadd, 1) := by decide +kernel
theorem dX3_slumpRow_31 : decode cX3_slumpRow 31 = .ok (.istore_n 3, 1) := by decide +kernel
theorem dX3_slumpRow_32 : decode cX3_slumpRow 32 = .ok (.iinc 4 1, 3) := by decide +kernel
theorem dX3_slumpRow_35 : decode cX3_slumpRow 35 = .ok (.goto (-30), 3) := by decide +kernel
theorem dX3_slumpRow_38 : decode cX3_slumpRow 38 = .ok (.iload_n 3, 1) := by decide +kernel
theorem dX3_slumpRow_39 : decode cX3_slumpRow 39 = .ok (.ireturn, 1) := by decide +kernel
theorem dX3_slumpRowOnce_0 : decode cX3_slumpRowOnce 0 = .ok (.iconst 0, 1) := by decide +kernel
theorem dX3_slumpRowOnce_1 : decode cX3_slumpRowOnce 1 = .ok (.istore_n 3, 1) := by decide +kernel
theorem dX3_slumpRowOnce_2 : decode cX3_slumpRowOnce 2 = .ok (.iconst 0, 1) := by decide +kernel
theorem dX3_slumpRowOnce_3 : decode cX3_slumpRowOnce 3 = .ok (.istore 4, 2) := by decide +kernel
theorem dX3_slumpRowOnce_5 : decode cX3_slumpRowOnce 5 = .ok (.iload 4, 2) := by decide +kernel
theorem dX3_slumpRowOnce_7 : decode cX3_slumpRowOnce 7 = .ok (.bipush 19, 2) := by decide +kernel
theorem dX3_slumpRowOnce_9 : decode cX3_slumpRowOnce 9 = .ok (.if_icmp .ge 107, 3) := by decide +kernel
theorem dX3_slumpRowOnce_12 : decode cX3_slumpRowOnce 12 = .ok (.iload_n 1, 1) := by decide +kernel
theorem dX3_slumpRowOnce_13 : decode cX3_slumpRowOnce 13 = .ok (.bipush 20, 2) := by decide +kernel
theorem dX3_slumpRowOnce_15 : decode cX3_slumpRowOnce 15 = .ok (.imul, 1) := by decide +kernel
theorem dX3_slumpRowOnce_16 : decode cX3_slumpRowOnce 16 = .ok (.iload 4, 2) := by decide +kernel
theorem dX3_slumpRowOnce_18 : decode cX3_slumpRowOnce 18 = .ok (.iadd, 1) := by decide +kernel
theorem dX3_slumpRowOnce_19 : decode cX3_slumpRowOnce 19 = .ok (.istore 5, 2) := by decide +kernel
theorem dX3_slumpRowOnce_21 : decode cX3_slumpRowOnce 21 = .ok (.aload_n 0, 1) := by decide +kernel
theorem dX3_slumpRowOnce_22 : decode cX3_slumpRowOnce 22 = .ok (.getfield 9, 3) := by decide +kernel
theorem dX3_slumpRowOnce_25 : decode cX3_slumpRowOnce 25 = .ok (.iload 5, 2) := by decide +kernel
theorem dX3_slumpRowOnce_27 : decode cX3_slumpRowOnce 27 = .ok (.iaload, 1) := by decide +kernel
theorem dX3_slumpRowOnce_28 : decode cX3_slumpRowOnce 28 = .ok (.aload_n 0, 1) := by decide +kernel
theorem dX3_slumpRowOnce_29 : decode cX3_slumpRowOnce 29 = .ok (.getfield 9, 3) := by decide +kernel
theorem dX3_slumpRowOnce_32 : decode cX3_slumpRowOnce 32 = .ok (.iload 5, 2) := by decide +kernel
theorem dX3_slumpRowOnce_34 : decode cX3_slumpRowOnce 34 = .ok (.iconst 1, 1) := by decide +kernel
theorem dX3_slumpRowOnce_35 : decode cX3_slumpRowOnce 35 = .ok (.iadd, 1) := by decide +kernel
theorem dX3_slumpRowOnce_36 : decode cX3_slumpRowOnce 36 = .ok (.iaload, 1) := by decide +kernel
theorem dX3_slumpRowOnce_37 : decode cX3_slumpRowOnce 37 = .ok (.isub, 1) := by decide +kernel
theorem dX3_slumpRowOnce_38 : decode cX3_slumpRowOnce 38 = .ok (.istore 6, 2) := by decide +kernel
theorem dX3_slumpRowOnce_40 : decode cX3_slumpRowOnce 40 = .ok (.iload 6, 2) := by decide +kernel
theorem dX3_slumpRowOnce_42 : decode cX3_slumpRowOnce 42 = .ok (.iload_n 2, 1) := by decide +kernel
theorem dX3_slumpRowOnce_43 : decode cX3_slumpRowOnce 43 = .ok (.if_icmp .le 33, 3) := by decide +kernel
theorem dX3_slumpRowOnce_46 : decode cX3_slumpRowOnce 46 = .ok (.aload_n 0, 1) := by decide +kernel
theorem dX3_slumpRowOnce_47 : decode cX3_slumpRowOnce 47 = .ok (.getfield 9, 3) := by decide +kernel
theorem dX3_slumpRowOnce_50 : decode cX3_slumpRowOnce 50 = .ok (.iload 5, 2) := by decide +kernel
theorem dX3_slumpRowOnce_52 : decode cX3_slumpRowOnce 52 = .ok (.dup2, 1) := by decide +kernel
theorem dX3_slumpRowOnce_53 : decode cX3_slumpRowOnce 53 = .ok (.iaload, 1) := by decide +kernel
theorem dX3_slumpRowOnce_54 : decode cX3_slumpRowOnce 54 = .ok (.iconst 1, 1) := by decide +kernel
theorem dX3_slumpRowOnce_55 : decode cX3_slumpRowOnce 55 = .ok (.isub, 1) := by decide +kernel
theorem dX3_slumpRowOnce_56 : decode cX3_slumpRowOnce 56 = .ok (.iastore, 1) := by decide +kernel
theorem dX3_slumpRowOnce_57 : decode cX3_slumpRowOnce 57 = .ok (.aload_n 0, 1) := by decide +kernel
theorem dX3_slumpRowOnce_58 : decode cX3_slumpRowOnce 58 = .ok (.getfield 9, 3) := by decide +kernel
theorem dX3_slumpRowOnce_61 : decode cX3_slumpRowOnce 61 = .ok (.iload 5, 2) := by decide +kernel
theorem dX3_slumpRowOnce_63 : decode cX3_slumpRowOnce 63 = .ok (.iconst 1, 1) := by decide +kernel
theorem dX3_slumpRowOnce_64 : decode cX3_slumpRowOnce 64 = .ok (.iadd, 1) := by decide +kernel
theorem dX3_slumpRowOnce_65 : decode cX3_slumpRowOnce 65 = .ok (.dup2, 1) := by decide +kernel
theorem dX3_slumpRowOnce_66 : decode cX3_slumpRowOnce 66 = .ok (.iaload, 1) := by decide +kernel
theorem dX3_slumpRowOnce_67 : decode cX3_slumpRowOnce 67 = .ok (.iconst 1, 1) := by decide +kernel
theorem dX3_slumpRowOnce_68 : decode cX3_slumpRowOnce 68 = .ok (.iadd, 1) := by decide +kernel
theorem dX3_slumpRowOnce_69 : decode cX3_slumpRowOnce 69 = .ok (.iastore, 1) := by decide +kernel
theorem dX3_slumpRowOnce_70 : decode cX3_slumpRowOnce 70 = .ok (.iinc 3 1, 3) := by decide +kernel
theorem dX3_slumpRowOnce_73 : decode cX3_slumpRowOnce 73 = .ok (.goto 37, 3) := by decide +kernel
theorem dX3_slumpRowOnce_76 : decode cX3_slumpRowOnce 76 = .ok (.iload 6, 2) := by decide +kernel
theorem dX3_slumpRowOnce_78 : decode cX3_slumpRowOnce 78 = .ok (.iload_n 2, 1) := by decide +kernel
theorem dX3_slumpRowOnce_79 : decode cX3_slumpRowOnce 79 = .ok (.ineg, 1) := by decide +kernel
theorem dX3_slumpRowOnce_80 : decode cX3_slumpRowOnce 80 = .ok (.if_icmp .ge 30, 3) := by decide +kernel
theorem dX3_slumpRowOnce_83 : decode cX3_slumpRowOnce 83 = .ok (.aload_n 0, 1) := by decide +kernel
theorem dX3_slumpRowOnce_84 : decode cX3_slumpRowOnce 84 = .ok (.getfield 9, 3) := by decide +kernel
theorem dX3_slumpRowOnce_87 : decode cX3_slumpRowOnce 87 = .ok (.iload 5, 2) := by decide +kernel
theorem dX3_slumpRowOnce_89 : decode cX3_slumpRowOnce 89 = .ok (.dup2, 1) := by decide +kernel
theorem dX3_slumpRowOnce_90 : decode cX3_slumpRowOnce 90 = .ok (.iaload, 1) := by decide +kernel
theorem dX3_slumpRowOnce_91 : decode cX3_slumpRowOnce 91 = .ok (.iconst 1, 1) := by decide +kernel
theorem dX3_slumpRowOnce_92 : decode cX3_slumpRowOnce 92 = .ok (.iadd, 1) := by decide +kernel
theorem dX3_slumpRowOnce_93 : decode cX3_slumpRowOnce 93 = .ok (.iastore, 1) := by decide +kernel
theorem dX3_slumpRowOnce_94 : decode cX3_slumpRowOnce 94 = .ok (.aload_n 0, 1) := by decide +kernel
theorem dX3_slumpRowOnce_95 : decode cX3_slumpRowOnce 95 = .ok (.getfield 9, 3) := by decide +kernel
theorem dX3_slumpRowOnce_98 : decode cX3_slumpRowOnce 98 = .ok (.iload 5, 2) := by decide +kernel
theorem dX3_slumpRowOnce_100 : decode cX3_slumpRowOnce 100 = .ok (.iconst 1, 1) := by decide +kernel
theorem dX3_slumpRowOnce_101 : decode cX3_slumpRowOnce 101 = .ok (.iadd, 1) := by decide +kernel
theorem dX3_slumpRowOnce_102 : decode cX3_slumpRowOnce 102 = .ok (.dup2, 1) := by decide +kernel
theorem dX3_slumpRowOnce_103 : decode cX3_slumpRowOnce 103 = .ok (.iaload, 1) := by decide +kernel
theorem dX3_slumpRowOnce_104 : decode cX3_slumpRowOnce 104 = .ok (.iconst 1, 1) := by decide +kernel
theorem dX3_slumpRowOnce_105 : decode cX3_slumpRowOnce 105 = .ok (.isub, 1) := by decide +kernel
theorem dX3_slumpRowOnce_106 : decode cX3_slumpRowOnce 106 = .ok (.iastore, 1) := by decide +kernel
theorem dX3_slumpRowOnce_107 : decode cX3_slumpRowOnce 107 = .ok (.iinc 3 1, 3) := by decide +kernel
theorem dX3_slumpRowOnce_110 : decode cX3_slumpRowOnce 110 = .ok (.iinc 4 1, 3) := by decide +kernel
theorem dX3_slumpRowOnce_113 : decode cX3_slumpRowOnce 113 = .ok (.goto (-108), 3) := by decide +kernel
theorem dX3_slumpRowOnce_116 : decode cX3_slumpRowOnce 116 = .ok (.iload_n 3, 1) := by decide +kernel
theorem dX3_slumpRowOnce_117 : decode cX3_slumpRowOnce 117 = .ok (.ireturn, 1) := by decide +kernel
theorem dX4_init_0 : decode cX4_init 0 = .ok (.aload_n 0, 1) := by decide +kernel
theorem dX4_init_1 : decode cX4_init 1 = .ok (.invokespecial 3, 3) := by decide +kernel
theorem dX4_init_4 : decode cX4_init 4 = .ok (.aload_n 0, 1) := by decide +kernel
theorem dX4_init_5 : decode cX4_init 5 = .ok (.new 9, 3) := by decide +kernel
theorem dX4_init_8 : decode cX4_init 8 = .ok (.dup, 1) := by decide +kernel
theorem dX4_init_9 : decode cX4_init 9 = .ok (.invokespecial 11, 3) := by decide +kernel
theorem dX4_init_12 : decode cX4_init 12 = .ok (.putfield 12, 3) := by decide +kernel
theorem dX4_init_15 : decode cX4_init 15 = .ok (.aload_n 0, 1) := by decide +kernel
theorem dX4_init_16 : decode cX4_init 16 = .ok (.new 18, 3) := by decide +kernel
theorem dX4_init_19 : decode cX4_init 19 = .ok (.dup, 1) := by decide +kernel
theorem dX4_init_20 : decode cX4_init 20 = .ok (.invokespecial 20, 3) := by decide +kernel
theorem dX4_init_23 : decode cX4_init 23 = .ok (.putfield 21, 3) := by decide +kernel
theorem dX4_init_26 : decode cX4_init 26 = .ok (.aload_n 0, 1) := by decide +kernel
theorem dX4_init_27 : decode cX4_init 27 = .ok (.iconst 4, 1) := by decide +kernel
theorem dX4_init_28 : decode cX4_init 28 = .ok (.newarray .int, 2) := by decide +kernel
theorem dX4_init_30 : decode cX4_init 30 = .ok (.putfield 25, 3) := by decide +kernel
theorem dX4_init_33 : decode cX4_init 33 = .ok (.aload_n 0, 1) := by decide +kernel
theorem dX4_init_34 : decode cX4_init 34 = .ok (.bipush 9, 2) := by decide +kernel
theorem dX4_init_36 : decode cX4_init 36 = .ok (.newarray .int, 2) := by decide +kernel
theorem dX4_init_38 : decode cX4_init 38 = .ok (.putfield 29, 3) := by decide +kernel
theorem dX4_init_41 : decode cX4_init 41 = .ok (.aload_n 0, 1) := by decide +kernel
theorem dX4_init_42 : decode cX4_init 42 = .ok (.sipush 168, 3) := by decide +kernel
theorem dX4_init_45 : decode cX4_init 45 = .ok (.newarray .int, 2) := by decide +kernel
theorem dX4_init_47 : decode cX4_init 47 = .ok (.putfield 32, 3) := by decide +kernel
theorem dX4_init_50 : decode cX4_init 50 = .ok (.aload_n 0, 1) := by decide +kernel
theorem dX4_init_51 : decode cX4_init 51 = .ok (.bipush 40, 2) := by decide +kernel
theorem dX4_init_53 : decode cX4_init 53 = .ok (.putfield 35, 3) := by decide +kernel
theorem dX4_init_56 : decode cX4_init 56 = .ok (.getstatic 39, 3) := by decide +kernel
theorem dX4_init_59 : decode cX4_init 59 = .ok (.iconst 0, 1) := by decide +kernel
theorem dX4_init_60 : decode cX4_init 60 = .ok (.aload_n 0, 1) := by decide +kernel
theorem dX4_init_61 : decode cX4_init 61 = .ok (.getfield 25, 3) := by decide +kernel
theorem dX4_init_64 : decode cX4_init 64 = .ok (.iconst 0, 1) := by decide +kernel
theorem dX4_init_65 : decode cX4_init 65 = .ok (.iconst 4, 1) := by decide +kernel
theorem dX4_init_66 : decode cX4_init 66 = .ok (.invokestatic 42, 3) := by decide +kernel
theorem dX4_init_69 : decode cX4_init 69 = .ok (.return_, 1) := by decide +kernel
theorem dX4_copyFrom_0 : decode cX4_copyFrom 0 = .ok (.aload_n 0, 1) := by decide +kernel
theorem dX4_copyFrom_1 : decode cX4_copyFrom 1 = .ok (.getfield 12, 3) := by decide +kernel
theorem dX4_copyFrom_4 : decode cX4_copyFrom 4 = .ok (.aload_n 1, 1) := by decide +kernel
theorem dX4_copyFrom_5 : decode cX4_copyFrom 5 = .ok (.getfield 12, 3) := by decide +kernel
theorem dX4_copyFrom_8 : decode cX4_copyFrom 8 = .ok (.invokevirtual 48, 3) := by decide +kernel
theorem dX4_copyFrom_11 : decode cX4_copyFrom 11 = .ok (.aload_n 0, 1) := by decide +kernel
theorem dX4_copyFrom_12 : decode cX4_copyFrom 12 = .ok (.getfield 21, 3) := by decide +kernel
theorem dX4_copyFrom_15 : decode cX4_copyFrom 15 = .ok (.aload_n 1, 1) := by decide +kernel
theorem dX4_copyFrom_16 : decode cX4_copyFrom 16 = .ok (.getfield 21, 3) := by decide +kernel
theorem dX4_copyFrom_19 : decode cX4_copyFrom 19 = .ok (.invokevirtual 52, 3) := by decide +kernel
theorem dX4_copyFrom_22 : decode cX4_copyFrom 22 = .ok (.aload_n 1, 1) := by decide +kernel
theorem dX4_copyFrom_23 : decode cX4_copyFrom 23 = .ok (.getfield 25, 3) := by decide +kernel
theorem dX4_copyFrom_26 : decode cX4_copyFrom 26 = .ok (.iconst 0, 1) := by decide +kernel
theorem dX4_copyFrom_27 : decode cX4_copyFrom 27 = .ok (.aload_n 0, 1) := by decide +kernel
theorem dX4_copyFrom_28 : decode cX4_copyFrom 28 = .ok (.getfield 25, 3) := by decide +kernel
theorem dX4_copyFrom_31 : decode cX4_copyFrom 31 = .ok (.iconst 0, 1) := by decide +kernel
theorem dX4_copyFrom_32 : decode cX4_copyFrom 32 = .ok (.iconst 4, 1) := by decide +kernel
theorem dX4_copyFrom_33 : decode cX4_copyFrom 33 = .ok (.invokestatic 42, 3) := by decide +kernel
theorem dX4_copyFrom_36 : decode cX4_copyFrom 36 = .ok (.aload_n 1, 1) := by decide +kernel
theorem dX4_copyFrom_37 : decode cX4_copyFrom 37 = .ok (.getfield 29, 3) := by decide +kernel
theorem dX4_copyFrom_40 : decode cX4_copyFrom 40 = .ok (.iconst 0, 1) := by decide +kernel
theorem dX4_copyFrom_41 : decode cX4_copyFrom 41 = .ok (.aload_n 0, 1) := by decide +kernel
theorem dX4_copyFrom_42 : decode cX4_copyFrom 42 = .ok (.getfield 29, 3) := by decide +kernel
theorem dX4_copyFrom_45 : decode cX4_copyFrom 45 = .ok (.iconst 0, 1) := by decide +kernel
theorem dX4_copyFrom_46 : decode cX4_copyFrom 46 = .ok (.bipush 9, 2) := by decide +kernel
theorem dX4_copyFrom_48 : decode cX4_copyFrom 48 = .ok (.invokestatic 42, 3) := by decide +kernel
theorem dX4_copyFrom_51 : decode cX4_copyFrom 51 = .ok (.aload_n 1, 1) := by decide +kernel
theorem dX4_copyFrom_52 : decode cX4_copyFrom 52 = .ok (.getfield 32, 3) := by decide +kernel
theorem dX4_copyFrom_55 : decode cX4_copyFrom 55 = .ok (.iconst 0, 1) := by decide +kernel
theorem dX4_copyFrom_56 : decode cX4_copyFrom 56 = .ok (.aload_n 0, 1) := by decide +kernel
theorem dX4_copyFrom_57 : decode cX4_copyFrom 57 = .ok (.getfield 32, 3) := by decide +kernel
theorem dX4_copyFrom_60 : decode cX4_copyFrom 60 = .ok (.iconst 0, 1) := by decide +kernel
theorem dX4_copyFrom_61 : decode cX4_copyFrom 61 = .ok (.aload_n 0, 1) := by decide +kernel
theorem dX4_copyFrom_62 : decode cX4_copyFrom 62 = .ok (.getfield 32, 3) := by decide +kernel
theorem dX4_copyFrom_65 : decode cX4_copyFrom 65 = .ok (.arraylength, 1) := by decide +kernel
theorem dX4_copyFrom_66 : decode cX4_copyFrom 66 = .ok (.invokestatic 42, 3) := by decide +kernel
theorem dX4_copyFrom_69 : decode cX4_copyFrom 69 = .ok (.aload_n 0, 1) := by decide +kernel
theorem dX4_copyFrom_70 : decode cX4_copyFrom 70 = .ok (.aload_n 1, 1) := by decide +kernel
theorem dX4_copyFrom_71 : decode cX4_copyFrom 71 = .ok (.getfield 55, 3) := by decide +kernel
theorem dX4_copyFrom_74 : decode cX4_copyFrom 74 = .ok (.putfield 55, 3) := by decide +kernel
theorem dX4_copyFrom_77 : decode cX4_copyFrom 77 = .ok (.aload_n 0, 1) := by decide +kernel
theorem dX4_copyFrom_78 : decode cX4_copyFrom 78 = .ok (.aload_n 1, 1) := by decide +kernel
theorem dX4_copyFrom_79 : decode cX4_copyFrom 79 = .ok (.getfield 35, 3) := by decide +kernel
theorem dX4_copyFrom_82 : decode cX4_copyFrom 82 = .ok (.putfield 35, 3) := by decide +kernel
theorem dX4_copyFrom_85 : decode cX4_copyFrom 85 = .ok (.return_, 1) := by decide +kernel
theorem dX4_takeOver_0 : decode cX4_takeOver 0 = .ok (.aload_n 1, 1) := by decide +kernel
theorem dX4_takeOver_1 : decode cX4_takeOver 1 = .ok (.getfield 58, 3) := by decide +kernel
theorem dX4_takeOver_4 : decode cX4_takeOver 4 = .ok (.iconst 0, 1) := by decide +kernel
theorem dX4_takeOver_5 : decode cX4_takeOver 5 = .ok (.aload_n 0, 1) := by decide +kernel
theorem dX4_takeOver_6 : decode cX4_takeOver 6 = .ok (.getfield 32, 3) := by decide +kernel
theorem dX4_takeOver_9 : decode cX4_takeOver 9 = .ok (.iload_n 2, 1) := by decide +kernel
theorem dX4_takeOver_10 : decode cX4_takeOver 10 = .ok (.bipush 7, 2) := by decide +kernel
theorem dX4_takeOver_12 : decode cX4_takeOver 12 = .ok (.imul, 1) := by decide +kernel
theorem dX4_takeOver_13 : decode cX4_takeOver 13 = .ok (.bipush 7, 2) := by decide +kernel
theorem dX4_takeOver_15 : decode cX4_takeOver 15 = .ok (.invokestatic 42, 3) := by decide +kernel
theorem dX4_takeOver_18 : decode cX4_takeOver 18 = .ok (.aload_n 0, 1) := by decide +kernel
theorem dX4_takeOver_19 : decode cX4_takeOver 19 = .ok (.getfield 29, 3) := by decide +kernel
theorem dX4_takeOver_22 : decode cX4_takeOver 22 = .ok (.iconst 1, 1) := by decide +kernel
theorem dX4_takeOver_23 : decode cX4_takeOver 23 = .ok (.dup2, 1) := by decide +kernel
theorem dX4_takeOver_24 : decode cX4_takeOver 24 = .ok (.iaload, 1) := by decide +kernel
theorem dX4_takeOver_25 : decode cX4_takeOver 25 = .ok (.aload_n 1, 1) := by decide +kernel
theorem dX4_takeOver_26 : decode cX4_takeOver 26 = .ok (.getfield 63, 3) := by decide +kernel
theorem dX4_takeOver_29 : decode cX4_takeOver 29 = .ok (.iadd, 1) := by decide +kernel
theorem dX4_takeOver_30 : decode cX4_takeOver 30 = .ok (.iastore, 1) := by decide +kernel
theorem dX4_takeOver_31 : decode cX4_takeOver 31 = .ok (.aload_n 0, 1) := by decide +kernel
theorem dX4_takeOver_32 : decode cX4_takeOver 32 = .ok (.getfield 29, 3) := by decide +kernel
theorem dX4_takeOver_35 : decode cX4_takeOver 35 = .ok (.iconst 2, 1) := by decide +kernel
theorem dX4_takeOver_36 : decode cX4_takeOver 36 = .ok (.dup2, 1) := by decide +kernel
theorem dX4_takeOver_37 : decode cX4_takeOver 37 = .ok (.iaload, 1) := by decide +kernel
theorem dX4_takeOver_38 : decode cX4_takeOver 38 = .ok (.aload_n 1, 1) := by decide +kernel
theorem dX4_takeOver_39 : decode cX4_takeOver 39 = .ok (.getfield 66, 3) := by decide +kernel
theorem dX4_takeOver_42 : decode cX4_takeOver 42 = .ok (.iadd, 1) := by decide +kernel
theorem dX4_takeOver_43 : decode cX4_takeOver 43 = .ok (.iastore, 1) := by decide +kernel
theorem dX4_takeOver_44 : decode cX4_takeOver 44 = .ok (.aload_n 0, 1) := by decide +kernel
theorem dX4_takeOver_45 : decode cX4_takeOver 45 = .ok (.getfield 29, 3) := by decide +kernel
theorem dX4_takeOver_48 : decode cX4_takeOver 48 = .ok (.iconst 5, 1) := by decide +kernel
theorem dX4_takeOver_49 : decode cX4_takeOver 49 = .ok (.dup2, 1) := by decide +kernel
theorem dX4_takeOver_50 : decode cX4_takeOver 50 = .ok (.iaload, 1) := by decide +kernel
theorem dX4_takeOver_51 : decode cX4_takeOver 51 = .ok (.iconst 1, 1) := by decide +kernel
theorem dX4_takeOver_52 : decode cX4_takeOver 52 = .ok (.iadd, 1) := by decide +kernel
theorem dX4_takeOver_53 : decode cX4_takeOver 53 = .ok (.iastore, 1) := by decide +kernel
theorem dX4_takeOver_54 : decode cX4_takeOver 54 = .ok (.aload_n 0, 1) := by decide +kernel
theorem dX4_takeOver_55 : decode cX4_takeOver 55 = .ok (.getfield 29, 3) := by decide +kernel
theorem dX4_takeOver_58 : decode cX4_takeOver 58 = .ok (.bipush 6, 2) := by decide +kernel
theorem dX4_takeOver_60 : decode cX4_takeOver 60 = .ok (.dup2, 1) := by decide +kernel
theorem dX4_takeOver_61 : decode cX4_takeOver 61 = .ok (.iaload, 1) := by decide +kernel
theorem dX4_takeOver_62 : decode cX4_takeOver 62 = .ok (.aload_n 1, 1) := by decide +kernel
theorem dX4_takeOver_63 : decode cX4_takeOver 63 = .ok (.iconst 5, 1) := by decide +kernel
theorem dX4_takeOver_64 : decode cX4_takeOver 64 = .ok (.invokevirtual 69, 3) := by decide +kernel
theorem dX4_takeOver_67 : decode cX4_takeOver 67 = .ok (.iadd, 1) := by decide +kernel
theorem dX4_takeOver_68 : decode cX4_takeOver 68 = .ok (.iastore, 1) := by decide +kernel
theorem dX4_takeOver_69 : decode cX4_takeOver 69 = .ok (.return_, 1) := by decide +kernel
theorem dX5_init_0 : decode cX5_init 0 = .ok (.aload_n 0, 1) := by decide +kernel
theorem dX5_init_1 : decode cX5_init 1 = .ok (.invokespecial 3, 3) := by decide +kernel
theorem dX5_init_4 : decode cX5_init 4 = .ok (.aload_n 0, 1) := by decide +kernel
theorem dX5_init_5 : decode cX5_init 5 = .ok (.bipush 60, 2) := by decide +kernel
theorem dX5_init_7 : decode cX5_init 7 = .ok (.newarray .char, 2) := by decide +kernel
theorem dX5_init_9 : decode cX5_init 9 = .ok (.putfield 9, 3) := by decide +kernel
theorem dX5_init_12 : decode cX5_init 12 = .ok (.aload_n 0, 1) := by decide +kernel
theorem dX5_init_13 : decode cX5_init 13 = .ok (.new 15, 3) := by decide +kernel
theorem dX5_init_16 : decode cX5_init 16 = .ok (.dup, 1) := by decide +kernel
theorem dX5_init_17 : decode cX5_init 17 = .ok (.invokespecial 17, 3) := by decide +kernel
theorem dX5_init_20 : decode cX5_init 20 = .ok (.putfield 18, 3) := by decide +kernel
theorem dX5_init_23 : decode cX5_init 23 = .ok (.return_, 1) := by decide +kernel
theorem dX5_length_0 : decode cX5_length 0 = .ok (.aload_n 0, 1) := by decide +kernel
theorem dX5_length_1 : decode cX5_length 1 = .ok (.getfield 22, 3) := by decide +kernel
theorem dX5_length_4 : decode cX5_length 4 = .ok (.ireturn, 1) := by decide +kernel
theorem dX5_add_0 : decode cX5_add 0 = .ok (.aload_n 0, 1) := by decide +kernel
theorem dX5_add_1 : decode cX5_add 1 = .ok (.getfield 22, 3) := by decide +kernel
theorem dX5_add_4 : decode cX5_add 4 = .ok (.bipush 60, 2) := by decide +kernel
theorem dX5_add_6 : decode cX5_add 6 = .ok (.if_icmp .ge 23, 3) := by decide +kernel
theorem dX5_add_9 : decode cX5_add 9 = .ok (.aload_n 0, 1) := by decide +kernel
theorem dX5_add_10 : decode cX5_add 10 = .ok (.getfield 9, 3) := by decide +kernel
theorem dX5_add_13 : decode cX5_add 13 = .ok (.aload_n 0, 1) := by decide +kernel
theorem dX5_add_14 : decode cX5_add 14 = .ok (.getfield 22, 3) := by decide +kernel
theorem dX5_add_17 : decode cX5_add 17 = .ok (.iload_n 1, 1) := by decide +kernel
theorem dX5_add_18 : decode cX5_add 18 = .ok (.castore, 1) := by decide +kernel
theorem dX5_add_19 : decode cX5_add 19 = .ok (.aload_n 0, 1) := by decide +kernel
theorem dX5_add_20 : decode cX5_add 20 = .ok (.dup, 1) := by decide +kernel
theorem dX5_add_21 : decode cX5_add 21 = .ok (.getfield 22, 3) := by decide +kernel
theorem dX5_add_24 : decode cX5_add 24 = .ok (.iconst 1, 1) := by decide +kernel
theorem dX5_add_25 : decode cX5_add 25 = .ok (.iadd, 1) := by decide +kernel
theorem dX5_add_26 : decode cX5_add 26 = .ok (.putfield 22, 3) := by decide +kernel
theorem dX5_add_29 : decode cX5_add 29 = .ok (.return_, 1) := by decide +kernel
theorem dX5_empty_0 : decode cX5_empty 0 = .ok (.aload_n 0, 1) := by decide +kernel
theorem dX5_empty_1 : decode cX5_empty 1 = .ok (.iconst 0, 1) := by decide +kernel
theorem dX5_empty_2 : decode cX5_empty 2 = .ok (.putfield 22, 3) := by decide +kernel
theorem dX5_empty_5 : decode cX5_empty 5 = .ok (.return_, 1) := by decide +kernel
theorem dX5_waves_0 : decode cX5_waves 0 = .ok (.aload_n 0, 1) := by decide +kernel
theorem dX5_waves_1 : decode cX5_waves 1 = .ok (.getfield 26, 3) := by decide +kernel
theorem dX5_waves_4 : decode cX5_waves 4 = .ok (.ireturn, 1) := by decide +kernel
theorem dX5_queue_0 : decode cX5_queue 0 = .ok (.aload_n 0, 1) := by decide +kernel
theorem dX5_queue_1 : decode cX5_queue 1 = .ok (.getfield 18, 3) := by decide +kernel
theorem dX5_queue_4 : decode cX5_queue 4 = .ok (.areturn, 1) := by decide +kernel
theorem dX5_read_0 : decode cX5_read 0 = .ok (.aload_n 0, 1) := by decide +kernel
theorem dX5_read_1 : decode cX5_read 1 = .ok (.getfield 18, 3) := by decide +kernel
theorem dX5_read_4 : decode cX5_read 4 = .ok (.invokevirtual 29, 3) := by decide +kernel
theorem dX5_read_7 : decode cX5_read 7 = .ok (.aload_n 0, 1) := by decide +kernel
theorem dX5_read_8 : decode cX5_read 8 = .ok (.iconst 0, 1) := by decide +kernel
theorem dX5_read_9 : decode cX5_read 9 = .ok (.putfield 26, 3) := by decide +kernel
theorem dX5_read_12 : decode cX5_read 12 = .ok (.iconst 0, 1) := by decide +kernel
theorem dX5_read_13 : decode cX5_read 13 = .ok (.istore_n 1, 1) := by decide +kernel
theorem dX5_read_14 : decode cX5_read 14 = .ok (.iconst 0, 1) := by decide +kernel
theorem dX5_read_15 : decode cX5_read 15 = .ok (.istore_n 2, 1) := by decide +kernel
theorem dX5_read_16 : decode cX5_read 16 = .ok (.iload_n 2, 1) := by decide +kernel
theorem dX5_read_17 : decode cX5_read 17 = .ok (.aload_n 0, 1) := by decide +kernel
theorem dX5_read_18 : decode cX5_read 18 = .ok (.getfield 22, 3) := by decide +kernel
theorem dX5_read_21 : decode cX5_read 21 = .ok (.if_icmp .ge 28, 3) := by decide +kernel
theorem dX5_read_24 : decode cX5_read 24 = .ok (.aload_n 0, 1) := by decide +kernel
theorem dX5_read_25 : decode cX5_read 25 = .ok (.iload_n 1, 1) := by decide +kernel
theorem dX5_read_26 : decode cX5_read 26 = .ok (.aload_n 0, 1) := by decide +kernel
theorem dX5_read_27 : decode cX5_read 27 = .ok (.getfield 9, 3) := by decide +kernel
theorem dX5_read_30 : decode cX5_read 30 = .ok (.iload_n 2, 1) := by decide +kernel
theorem dX5_read_31 : decode cX5_read 31 = .ok (.caload, 1) := by decide +kernel
theorem dX5_read_32 : decode cX5_read 32 = .ok (.invokevirtual 32, 3) := by decide +kernel
theorem dX5_read_35 : decode cX5_read 35 = .ok (.istore_n 1, 1) := by decide +kernel
theorem dX5_read_36 : decode cX5_read 36 = .ok (.iload_n 1, 1) := by decide +kernel
theorem dX5_read_37 : decode cX5_read 37 = .ok (.iconst (-1), 1) := by decide +kernel
theorem dX5_read_38 : decode cX5_read 38 = .ok (.if_icmp .ne 5, 3) := by decide +kernel
theorem dX5_read_41 : decode cX5_read 41 = .ok (.iload_n 2, 1) := by decide +kernel
theorem dX5_read_42 : decode cX5_read 42 = .ok (.ireturn, 1) := by decide +kernel
theorem dX5_read_43 : decode cX5_read 43 = .ok (.iinc 2 1, 3) := by decide +kernel
theorem dX5_read_46 : decode cX5_read 46 = .ok (.goto (-30), 3) := by decide +kernel
theorem dX5_read_49 : decode cX5_read 49 = .ok (.iload_n 1, 1) := by decide +kernel
theorem dX5_read_50 : decode cX5_read 50 = .ok (.iconst 3, 1) := by decide +kernel
theorem dX5_read_51 : decode cX5_read 51 = .ok (.if_icmp .eq 13, 3) := by decide +kernel
theorem dX5_read_54 : decode cX5_read 54 = .ok (.iload_n 1, 1) := by decide +kernel
theorem dX5_read_55 : decode cX5_read 55 = .ok (.iconst 5, 1) := by decide +kernel
theorem dX5_read_56 : decode cX5_read 56 = .ok (.if_icmp .eq 8, 3) := by decide +kernel
theorem dX5_read_59 : decode cX5_read 59 = .ok (.aload_n 0, 1) := by decide +kernel
theorem dX5_read_60 : decode cX5_read 60 = .ok (.getfield 22, 3) := by decide +kernel
theorem dX5_read_63 : decode cX5_read 63 = .ok (.ireturn, 1) := by decide +kernel
theorem dX5_read_64 : decode cX5_read 64 = .ok (.aload_n 0, 1) := by decide +kernel
theorem dX5_read_65 : decode cX5_read 65 = .ok (.invokevirtual 36, 3) := by decide +kernel
theorem dX5_read_68 : decode cX5_read 68 = .ok (.iconst (-1), 1) := by decide +kernel
theorem dX5_read_69 : decode cX5_read 69 = .ok (.ireturn, 1) := by decide +kernel
theorem dX5_after_0 : decode cX5_after 0 = .ok (.iload_n 1, 1) := by decide +kernel
theorem dX5_after_1 : decode cX5_after 1 = .ok (.tableswitch 81 0 5 #[39, 45, 57, 63, 69, 75], 39) := by decide +kernel
theorem dX5_after_40 : decode cX5_after 40 = .ok (.aload_n 0, 1) := by decide +kernel
theorem dX5_after_41 : decode cX5_after 41 = .ok (.iload_n 2, 1) := by decide +kernel
theorem dX5_after_42 : decode cX5_after 42 = .ok (.invokevirtual 39, 3) := by decide +kernel
theorem dX5_after_45 : decode cX5_after 45 = .ok (.ireturn, 1) := by decide +kernel
theorem dX5_after_46 : decode cX5_after 46 = .ok (.iload_n 2, 1) := by decide +kernel
theorem dX5_after_47 : decode cX5_after 47 = .ok (.bipush 104, 2) := by decide +kernel
theorem dX5_after_49 : decode cX5_after 49 = .ok (.if_icmp .ne 7, 3) := by decide +kernel
theorem dX5_after_52 : decode cX5_after 52 = .ok (.iconst 2, 1) := by decide +kernel
theorem dX5_after_53 : decode cX5_after 53 = .ok (.goto 4, 3) := by decide +kernel
theorem dX5_after_56 : decode cX5_after 56 = .ok (.iconst (-1), 1) := by decide +kernel
theorem dX5_after_57 : decode cX5_after 57 = .ok (.ireturn, 1) := by decide +kernel
theorem dX5_after_58 : decode cX5_after 58 = .ok (.aload_n 0, 1) := by decide +kernel
theorem dX5_after_59 : decode cX5_after 59 = .ok (.iload_n 2, 1) := by decide +kernel
theorem dX5_after_60 : decode cX5_after 60 = .ok (.invokevirtual 43, 3) := by decide +kernel
theorem dX5_after_63 : decode cX5_after 63 = .ok (.ireturn, 1) := by decide +kernel
theorem dX5_after_64 : decode cX5_after 64 = .ok (.aload_n 0, 1) := by decide +kernel
theorem dX5_after_65 : decode cX5_after 65 = .ok (.iload_n 2, 1) := by decide +kernel
theorem dX5_after_66 : decode cX5_after 66 = .ok (.invokevirtual 46, 3) := by decide +kernel
theorem dX5_after_69 : decode cX5_after 69 = .ok (.ireturn, 1) := by decide +kernel
theorem dX5_after_70 : decode cX5_after 70 = .ok (.aload_n 0, 1) := by decide +kernel
theorem dX5_after_71 : decode cX5_after 71 = .ok (.iload_n 2, 1) := by decide +kernel
theorem dX5_after_72 : decode cX5_after 72 = .ok (.invokevirtual 49, 3) := by decide +kernel
theorem dX5_after_75 : decode cX5_after 75 = .ok (.ireturn, 1) := by decide +kernel
theorem dX5_after_76 : decode cX5_after 76 = .ok (.aload_n 0, 1) := by decide +kernel
theorem dX5_after_77 : decode cX5_after 77 = .ok (.iload_n 2, 1) := by decide +kernel
theorem dX5_after_78 : decode cX5_after 78 = .ok (.invokevirtual 52, 3) := by decide +kernel
theorem dX5_after_81 : decode cX5_after 81 = .ok (.ireturn, 1) := by decide +kernel
theorem dX5_after_82 : decode cX5_after 82 = .ok (.iconst (-1), 1) := by decide +kernel
theorem dX5_after_83 : decode cX5_after 83 = .ok (.ireturn, 1) := by decide +kernel
theorem dX5_takeRow_0 : decode cX5_takeRow 0 = .ok (.iload_n 1, 1) := by decide +kernel
theorem dX5_takeRow_1 : decode cX5_takeRow 1 = .ok (.bipush 48, 2) := by decide +kernel
theorem dX5_takeRow_3 : decode cX5_takeRow 3 = .ok (.if_icmp .lt 9, 3) := by decide +kernel
theorem dX5_takeRow_6 : decode cX5_takeRow 6 = .ok (.iload_n 1, 1) := by decide +kernel
theorem dX5_takeRow_7 : decode cX5_takeRow 7 = .ok (.bipush 51, 2) := by decide +kernel
theorem dX5_takeRow_9 : decode cX5_takeRow 9 = .ok (.if_icmp .le 5, 3) := by decide +kernel
theorem dX5_takeRow_12 : decode cX5_takeRow 12 = .ok (.iconst (-1), 1) := by decide +kernel
theorem dX5_takeRow_13 : decode cX5_takeRow 13 = .ok (.ireturn, 1) := by decide +kernel
theorem dX5_takeRow_14 : decode cX5_takeRow 14 = .ok (.aload_n 0, 1) := by decide +kernel
theorem dX5_takeRow_15 : decode cX5_takeRow 15 = .ok (.iload_n 1, 1) := by decide +kernel
theorem dX5_takeRow_16 : decode cX5_takeRow 16 = .ok (.bipush 48, 2) := by decide +kernel
theorem dX5_takeRow_18 : decode cX5_takeRow 18 = .ok (.isub, 1) := by decide +kernel
theorem dX5_takeRow_19 : decode cX5_takeRow 19 = .ok (.putfield 55, 3) := by decide +kernel
theorem dX5_takeRow_22 : decode cX5_takeRow 22 = .ok (.aload_n 0, 1) := by decide +kernel
theorem dX5_takeRow_23 : decode cX5_takeRow 23 = .ok (.iconst 1, 1) := by decide +kernel
theorem dX5_takeRow_24 : decode cX5_takeRow 24 = .ok (.putfield 58, 3) := by decide +kernel
theorem dX5_takeRow_27 : decode cX5_takeRow 27 = .ok (.iconst 1, 1) := by decide +kernel
theorem dX5_takeRow_28 : decode cX5_takeRow 28 = .ok (.ireturn, 1) := by decide +kernel
theorem dX5_takeHeight_0 : decode cX5_takeHeight 0 = .ok (.iload_n 1, 1) := by decide +kernel
theorem dX5_takeHeight_1 : decode cX5_takeHeight 1 = .ok (.bipush 49, 2) := by decide +kernel
theorem dX5_takeHeight_3 : decode cX5_takeHeight 3 = .ok (.if_icmp .lt 9, 3) := by decide +kernel
theorem dX5_takeHeight_6 : decode cX5_takeHeight 6 = .ok (.iload_n 1, 1) := by decide +kernel
theorem dX5_takeHeight_7 : decode cX5_takeHeight 7 = .ok (.bipush 57, 2) := by decide +kernel
theorem dX5_takeHeight_9 : decode cX5_takeHeight 9 = .ok (.if_icmp .le 5, 3) := by decide +kernel
theorem dX5_takeHeight_12 : decode cX5_takeHeight 12 = .ok (.iconst (-1), 1) := by decide +kernel
theorem dX5_takeHeight_13 : decode cX5_takeHeight 13 = .ok (.ireturn, 1) := by decide +kernel
theorem dX5_takeHeight_14 : decode cX5_takeHeight 14 = .ok (.aload_n 0, 1) := by decide +kernel
theorem dX5_takeHeight_15 : decode cX5_takeHeight 15 = .ok (.iload_n 1, 1) := by decide +kernel
theorem dX5_takeHeight_16 : decode cX5_takeHeight 16 = .ok (.bipush 48, 2) := by decide +kernel
theorem dX5_takeHeight_18 : decode cX5_takeHeight 18 = .ok (.isub, 1) := by decide +kernel
theorem dX5_takeHeight_19 : decode cX5_takeHeight 19 = .ok (.putfield 61, 3) := by decide +kernel
theorem dX5_takeHeight_22 : decode cX5_takeHeight 22 = .ok (.iconst 3, 1) := by decide +kernel
theorem dX5_takeHeight_23 : decode cX5_takeHeight 23 = .ok (.ireturn, 1) := by decide +kernel
theorem dX5_goOnAfterHeight_0 : decode cX5_goOnAfterHeight 0 = .ok (.iload_n 1, 1) := by decide +kernel
theorem dX5_goOnAfterHeight_1 : decode cX5_goOnAfterHeight 1 = .ok (.bipush 120, 2) := by decide +kernel
theorem dX5_goOnAfterHeight_3 : decode cX5_goOnAfterHeight 3 = .ok (.if_icmp .ne 5, 3) := by decide +kernel
theorem dX5_goOnAfterHeight_6 : decode cX5_goOnAfterHeight 6 = .ok (.iconst 4, 1) := by decide +kernel
theorem dX5_goOnAfterHeight_7 : decode cX5_goOnAfterHeight 7 = .ok (.ireturn, 1) := by decide +kernel
theorem dX5_goOnAfterHeight_8 : decode cX5_goOnAfterHeight 8 = .ok (.iload_n 1, 1) := by decide +kernel
theorem dX5_goOnAfterHeight_9 : decode cX5_goOnAfterHeight 9 = .ok (.bipush 48, 2) := by decide +kernel
theorem dX5_goOnAfterHeight_11 : decode cX5_goOnAfterHeight 11 = .ok (.if_icmp .lt 9, 3) := by decide +kernel
theorem dX5_goOnAfterHeight_14 : decode cX5_goOnAfterHeight 14 = .ok (.iload_n 1, 1) := by decide +kernel
theorem dX5_goOnAfterHeight_15 : decode cX5_goOnAfterHeight 15 = .ok (.bipush 57, 2) := by decide +kernel
theorem dX5_goOnAfterHeight_17 : decode cX5_goOnAfterHeight 17 = .ok (.if_icmp .le 9, 3) := by decide +kernel
theorem dX5_goOnAfterHeight_20 : decode cX5_goOnAfterHeight 20 = .ok (.aload_n 0, 1) := by decide +kernel
theorem dX5_goOnAfterHeight_21 : decode cX5_goOnAfterHeight 21 = .ok (.iload_n 1, 1) := by decide +kernel
theorem dX5_goOnAfterHeight_22 : decode cX5_goOnAfterHeight 22 = .ok (.invokevirtual 52, 3) := by decide +kernel
theorem dX5_goOnAfterHeight_25 : decode cX5_goOnAfterHeight 25 = .ok (.ireturn, 1) := by decide +kernel
theorem dX5_goOnAfterHeight_26 : decode cX5_goOnAfterHeight 26 = .ok (.aload_n 0, 1) := by decide +kernel
theorem dX5_goOnAfterHeight_27 : decode cX5_goOnAfterHeight 27 = .ok (.getfield 61, 3) := by decide +kernel
theorem dX5_goOnAfterHeight_30 : decode cX5_goOnAfterHeight 30 = .ok (.bipush 10, 2) := by decide +kernel
theorem dX5_goOnAfterHeight_32 : decode cX5_goOnAfterHeight 32 = .ok (.imul, 1) := by decide +kernel
theorem dX5_goOnAfterHeight_33 : decode cX5_goOnAfterHeight 33 = .ok (.iload_n 1, 1) := by decide +kernel
theorem dX5_goOnAfterHeight_34 : decode cX5_goOnAfterHeight 34 = .ok (.iadd, 1) := by decide +kernel
theorem dX5_goOnAfterHeight_35 : decode cX5_goOnAfterHeight 35 = .ok (.bipush 48, 2) := by decide +kernel
theorem dX5_goOnAfterHeight_37 : decode cX5_goOnAfterHeight 37 = .ok (.isub, 1) := by decide +kernel
theorem dX5_goOnAfterHeight_38 : decode cX5_goOnAfterHeight 38 = .ok (.istore_n 2, 1) := by decide +kernel
theorem dX5_goOnAfterHeight_39 : decode cX5_goOnAfterHeight 39 = .ok (.iload_n 2, 1) := by decide +kernel
theorem dX5_goOnAfterHeight_40 : decode cX5_goOnAfterHeight 40 = .ok (.bipush 20, 2) := by decide +kernel
theorem dX5_goOnAfterHeight_42 : decode cX5_goOnAfterHeight 42 = .ok (.if_icmp .le 5, 3) := by decide +kernel
theorem dX5_goOnAfterHeight_45 : decode cX5_goOnAfterHeight 45 = .ok (.iconst (-1), 1) := by decide +kernel
theorem dX5_goOnAfterHeight_46 : decode cX5_goOnAfterHeight 46 = .ok (.ireturn, 1) := by decide +kernel
theorem dX5_goOnAfterHeight_47 : decode cX5_goOnAfterHeight 47 = .ok (.aload_n 0, 1) := by decide +kernel
theorem dX5_goOnAfterHeight_48 : decode cX5_goOnAfterHeight 48 = .ok (.iload_n 2, 1) := by decide +kernel
theorem dX5_goOnAfterHeight_49 : decode cX5_goOnAfterHeight 49 = .ok (.putfield 61, 3) := by decide +kernel
theorem dX5_goOnAfterHeight_52 : decode cX5_goOnAfterHeight 52 = .ok (.iconst 3, 1) := by decide +kernel
theorem dX5_goOnAfterHeight_53 : decode cX5_goOnAfterHeight 53 = .ok (.ireturn, 1) := by decide +kernel
theorem dX5_takeTimes_0 : decode cX5_takeTimes 0 = .ok (.iload_n 1, 1) := by decide +kernel
theorem dX5_takeTimes_1 : decode cX5_takeTimes 1 = .ok (.bipush 50, 2) := by decide +kernel
theorem dX5_takeTimes_3 : decode cX5_takeTimes 3 = .ok (.if_icmp .lt 9, 3) := by decide +kernel
theorem dX5_takeTimes_6 : decode cX5_takeTimes 6 = .ok (.iload_n 1, 1) := by decide +kernel
theorem dX5_takeTimes_7 : decode cX5_takeTimes 7 = .ok (.bipush 57, 2) := by decide +kernel
theorem dX5_takeTimes_9 : decode cX5_takeTimes 9 = .ok (.if_icmp .le 5, 3) := by decide +kernel
theorem dX5_takeTimes_12 : decode cX5_takeTimes 12 = .ok (.iconst (-1), 1) := by decide +kernel
theorem dX5_takeTimes_13 : decode cX5_takeTimes 13 = .ok (.ireturn, 1) := by decide +kernel
theorem dX5_takeTimes_14 : decode cX5_takeTimes 14 = .ok (.aload_n 0, 1) := by decide +kernel
theorem dX5_takeTimes_15 : decode cX5_takeTimes 15 = .ok (.iload_n 1, 1) := by decide +kernel
theorem dX5_takeTimes_16 : decode cX5_takeTimes 16 = .ok (.bipush 48, 2) := by decide +kernel
theorem dX5_takeTimes_18 : decode cX5_takeTimes 18 = .ok (.isub, 1) := by decide +kernel
theorem dX5_takeTimes_19 : decode cX5_takeTimes 19 = .ok (.putfield 58, 3) := by decide +kernel
theorem dX5_takeTimes_22 : decode cX5_takeTimes 22 = .ok (.iconst 5, 1) := by decide +kernel
theorem dX5_takeTimes_23 : decode cX5_takeTimes 23 = .ok (.ireturn, 1) := by decide +kernel
theorem dX5_goOnAfterGroup_0 : decode cX5_goOnAfterGroup 0 = .ok (.iload_n 1, 1) := by decide +kernel
theorem dX5_goOnAfterGroup_1 : decode cX5_goOnAfterGroup 1 = .ok (.bipush 44, 2) := by decide +kernel
theorem dX5_goOnAfterGroup_3 : decode cX5_goOnAfterGroup 3 = .ok (.if_icmp .eq 5, 3) := by decide +kernel
theorem dX5_goOnAfterGroup_6 : decode cX5_goOnAfterGroup 6 = .ok (.iconst (-1), 1) := by decide +kernel
theorem dX5_goOnAfterGroup_7 : decode cX5_goOnAfterGroup 7 = .ok (.ireturn, 1) := by decide +kernel
theorem dX5_goOnAfterGroup_8 : decode cX5_goOnAfterGroup 8 = .ok (.aload_n 0, 1) := by decide +kernel
theorem dX5_goOnAfterGroup_9 : decode cX5_goOnAfterGroup 9 = .ok (.invokevirtual 36, 3) := by decide +kernel
theorem dX5_goOnAfterGroup_12 : decode cX5_goOnAfterGroup 12 = .ok (.iconst 0, 1) := by decide +kernel
theorem dX5_goOnAfterGroup_13 : decode cX5_goOnAfterGroup 13 = .ok (.ireturn, 1) := by decide +kernel
theorem dX5_endGroup_0 : decode cX5_endGroup 0 = .ok (.iconst 0, 1) := by decide +kernel
theorem dX5_endGroup_1 : decode cX5_endGroup 1 = .ok (.istore_n 1, 1) := by decide +kernel
theorem dX5_endGroup_2 : decode cX5_endGroup 2 = .ok (.iload_n 1, 1) := by decide +kernel
theorem dX5_endGroup_3 : decode cX5_endGroup 3 = .ok (.aload_n 0, 1) := by decide +kernel
theorem dX5_endGroup_4 : decode cX5_endGroup 4 = .ok (.getfield 58, 3) := by decide +kernel
theorem dX5_endGroup_7 : decode cX5_endGroup 7 = .ok (.if_icmp .ge 24, 3) := by decide +kernel
theorem dX5_endGroup_10 : decode cX5_endGroup 10 = .ok (.aload_n 0, 1) := by decide +kernel
theorem dX5_endGroup_11 : decode cX5_endGroup 11 = .ok (.getfield 18, 3) := by decide +kernel
theorem dX5_endGroup_14 : decode cX5_endGroup 14 = .ok (.aload_n 0, 1) := by decide +kernel
theorem dX5_endGroup_15 : decode cX5_endGroup 15 = .ok (.getfield 55, 3) := by decide +kernel
theorem dX5_endGroup_18 : decode cX5_endGroup 18 = .ok (.aload_n 0, 1) := by decide +kernel
theorem dX5_endGroup_19 : decode cX5_endGroup 19 = .ok (.getfield 61, 3) := by decide +kernel
theorem dX5_endGroup_22 : decode cX5_endGroup 22 = .ok (.invokevirtual 64, 3) := by decide +kernel
theorem dX5_endGroup_25 : decode cX5_endGroup 25 = .ok (.iinc 1 1, 3) := by decide +kernel
theorem dX5_endGroup_28 : decode cX5_endGroup 28 = .ok (.goto (-26), 3) := by decide +kernel
theorem dX5_endGroup_31 : decode cX5_endGroup 31 = .ok (.aload_n 0, 1) := by decide +kernel
theorem dX5_endGroup_32 : decode cX5_endGroup 32 = .ok (.dup, 1) := by decide +kernel
theorem dX5_endGroup_33 : decode cX5_endGroup 33 = .ok (.getfield 26, 3) := by decide +kernel
theorem dX5_endGroup_36 : decode cX5_endGroup 36 = .ok (.aload_n 0, 1) := by decide +kernel
theorem dX5_endGroup_37 : decode cX5_endGroup 37 = .ok (.getfield 58, 3) := by decide +kernel
theorem dX5_endGroup_40 : decode cX5_endGroup 40 = .ok (.iadd, 1) := by decide +kernel
theorem dX5_endGroup_41 : decode cX5_endGroup 41 = .ok (.putfield 26, 3) := by decide +kernel
theorem dX5_endGroup_44 : decode cX5_endGroup 44 = .ok (.return_, 1) := by decide +kernel
theorem dX6_init_0 : decode cX6_init 0 = .ok (.aload_n 0, 1) := by decide +kernel
theorem dX6_init_1 : decode cX6_init 1 = .ok (.invokespecial 3, 3) := by decide +kernel
theorem dX6_init_4 : decode cX6_init 4 = .ok (.aload_n 0, 1) := by decide +kernel
theorem dX6_init_5 : decode cX6_init 5 = .ok (.new 9, 3) := by decide +kernel
theorem dX6_init_8 : decode cX6_init 8 = .ok (.dup, 1) := by decide +kernel
theorem dX6_init_9 : decode cX6_init 9 = .ok (.invokespecial 11, 3) := by decide +kernel
theorem dX6_init_12 : decode cX6_init 12 = .ok (.putfield 12, 3) := by decide +kernel
theorem dX6_init_15 : decode cX6_init 15 = .ok (.aload_n 0, 1) := by decide +kernel
theorem dX6_init_16 : decode cX6_init 16 = .ok (.new 9, 3) := by decide +kernel
theorem dX6_init_19 : decode cX6_init 19 = .ok (.dup, 1) := by decide +kernel
theorem dX6_init_20 : decode cX6_init 20 = .ok (.invokespecial 11, 3) := by decide +kernel
theorem dX6_init_23 : decode cX6_init 23 = .ok (.putfield 16, 3) := by decide +kernel
theorem dX6_init_26 : decode cX6_init 26 = .ok (.aload_n 0, 1) := by decide +kernel
theorem dX6_init_27 : decode cX6_init 27 = .ok (.new 9, 3) := by decide +kernel
theorem dX6_init_30 : decode cX6_init 30 = .ok (.dup, 1) := by decide +kernel
theorem dX6_init_31 : decode cX6_init 31 = .ok (.invokespecial 11, 3) := by decide +kernel
theorem dX6_init_34 : decode cX6_init 34 = .ok (.putfield 19, 3) := by decide +kernel
theorem dX6_init_37 : decode cX6_init 37 = .ok (.aload_n 0, 1) := by decide +kernel
theorem dX6_init_38 : decode cX6_init 38 = .ok (.new 22, 3) := by decide +kernel
theorem dX6_init_41 : decode cX6_init 41 = .ok (.dup, 1) := by decide +kernel
theorem dX6_init_42 : decode cX6_init 42 = .ok (.invokespecial 24, 3) := by decide +kernel
theorem dX6_init_45 : decode cX6_init 45 = .ok (.putfield 25, 3) := by decide +kernel
theorem dX6_init_48 : decode cX6_init 48 = .ok (.aload_n 0, 1) := by decide +kernel
theorem dX6_init_49 : decode cX6_init 49 = .ok (.new 29, 3) := by decide +kernel
theorem dX6_init_52 : decode cX6_init 52 = .ok (.dup, 1) := by decide +kernel
theorem dX6_init_53 : decode cX6_init 53 = .ok (.invokespecial 31, 3) := by decide +kernel
theorem dX6_init_56 : decode cX6_init 56 = .ok (.putfield 32, 3) := by decide +kernel
theorem dX6_init_59 : decode cX6_init 59 = .ok (.aload_n 0, 1) := by decide +kernel
theorem dX6_init_60 : decode cX6_init 60 = .ok (.new 36, 3) := by decide +kernel
theorem dX6_init_63 : decode cX6_init 63 = .ok (.dup, 1) := by decide +kernel
theorem dX6_init_64 : decode cX6_init 64 = .ok (.invokespecial 38, 3) := by decide +kernel
theorem dX6_init_67 : decode cX6_init 67 = .ok (.putfield 39, 3) := by decide +kernel
theorem dX6_init_70 : decode cX6_init 70 = .ok (.aload_n 0, 1) := by decide +kernel
theorem dX6_init_71 : decode cX6_init 71 = .ok (.new 43, 3) := by decide +kernel
theorem dX6_init_74 : decode cX6_init 74 = .ok (.dup, 1) := by decide +kernel
theorem dX6_init_75 : decode cX6_init 75 = .ok (.invokespecial 45, 3) := by decide +kernel
theorem dX6_init_78 : decode cX6_init 78 = .ok (.putfield 46, 3) := by decide +kernel
theorem dX6_init_81 : decode cX6_init 81 = .ok (.aload_n 0, 1) := by decide +kernel
theorem dX6_init_82 : decode cX6_init 82 = .ok (.bipush 24, 2) := by decide +kernel
theorem dX6_init_84 : decode cX6_init 84 = .ok (.newarray .int, 2) := by decide +kernel
theorem dX6_init_86 : decode cX6_init 86 = .ok (.putfield 50, 3) := by decide +kernel
theorem dX6_init_89 : decode cX6_init 89 = .ok (.return_, 1) := by decide +kernel
theorem dX6_dump_0 : decode cX6_dump 0 = .ok (.iload_n 1, 1) := by decide +kernel
theorem dX6_dump_1 : decode cX6_dump 1 = .ok (.invokestatic 54, 3) := by decide +kernel
theorem dX6_dump_4 : decode cX6_dump 4 = .ok (.ifCond .eq 10, 3) := by decide +kernel
theorem dX6_dump_7 : decode cX6_dump 7 = .ok (.iload_n 2, 1) := by decide +kernel
theorem dX6_dump_8 : decode cX6_dump 8 = .ok (.invokestatic 58, 3) := by decide +kernel
theorem dX6_dump_11 : decode cX6_dump 11 = .ok (.ifCond .ne 7, 3) := by decide +kernel
theorem dX6_dump_14 : decode cX6_dump 14 = .ok (.sipush (-1001), 3) := by decide +kernel
theorem dX6_dump_17 : decode cX6_dump 17 = .ok (.ireturn, 1) := by decide +kernel
theorem dX6_dump_18 : decode cX6_dump 18 = .ok (.iload_n 3, 1) := by decide +kernel
theorem dX6_dump_19 : decode cX6_dump 19 = .ok (.ifCond .lt 9, 3) := by decide +kernel
theorem dX6_dump_22 : decode cX6_dump 22 = .ok (.iload_n 3, 1) := by decide +kernel
theorem dX6_dump_23 : decode cX6_dump 23 = .ok (.bipush 99, 2) := by decide +kernel
theorem dX6_dump_25 : decode cX6_dump 25 = .ok (.if_icmp .le 7, 3) := by decide +kernel
theorem dX6_dump_28 : decode cX6_dump 28 = .ok (.sipush (-1002), 3) := by decide +kernel
theorem dX6_dump_31 : decode cX6_dump 31 = .ok (.ireturn, 1) := by decide +kernel
theorem dX6_dump_32 : decode cX6_dump 32 = .ok (.aload_n 0, 1) := by decide +kernel
theorem dX6_dump_33 : decode cX6_dump 33 = .ok (.getfield 12, 3) := by decide +kernel
theorem dX6_dump_36 : decode cX6_dump 36 = .ok (.getfield 61, 3) := by decide +kernel
theorem dX6_dump_39 : decode cX6_dump 39 = .ok (.iload_n 1, 1) := by decide +kernel
theorem dX6_dump_40 : decode cX6_dump 40 = .ok (.iload_n 2, 1) := by decide +kernel
theorem dX6_dump_41 : decode cX6_dump 41 = .ok (.invokevirtual 64, 3) := by decide +kernel
theorem dX6_dump_44 : decode cX6_dump 44 = .ok (.istore 4, 2) := by decide +kernel
theorem dX6_dump_46 : decode cX6_dump 46 = .ok (.iload 4, 2) := by decide +kernel
theorem dX6_dump_48 : decode cX6_dump 48 = .ok (.iload_n 3, 1) := by decide +kernel
theorem dX6_dump_49 : decode cX6_dump 49 = .ok (.if_icmp .ne 7, 3) := by decide +kernel
theorem dX6_dump_52 : decode cX6_dump 52 = .ok (.sipush (-1005), 3) := by decide +kernel
theorem dX6_dump_55 : decode cX6_dump 55 = .ok (.ireturn, 1) := by decide +kernel
theorem dX6_dump_56 : decode cX6_dump 56 = .ok (.aload_n 0, 1) := by decide +kernel
theorem dX6_dump_57 : decode cX6_dump 57 = .ok (.getfield 25, 3) := by decide +kernel
theorem dX6_dump_60 : decode cX6_dump 60 = .ok (.aload_n 0, 1) := by decide +kernel
theorem dX6_dump_61 : decode cX6_dump 61 = .ok (.getfield 12, 3) := by decide +kernel
theorem dX6_dump_64 : decode cX6_dump 64 = .ok (.invokevirtual 68, 3) := by decide +kernel
theorem dX6_dump_67 : decode cX6_dump 67 = .ok (.aload_n 0, 1) := by decide +kernel
theorem dX6_dump_68 : decode cX6_dump 68 = .ok (.getfield 12, 3) := by decide +kernel
theorem dX6_dump_71 : decode cX6_dump 71 = .ok (.getfield 61, 3) := by decide +kernel
theorem dX6_dump_74 : decode cX6_dump 74 = .ok (.iload_n 1, 1) := by decide +kernel
theorem dX6_dump_75 : decode cX6_dump 75 = .ok (.iload_n 2, 1) := by decide +kernel
theorem dX6_dump_76 : decode cX6_dump 76 = .ok (.iload_n 3, 1) := by decide +kernel
theorem dX6_dump_77 : decode cX6_dump 77 = .ok (.invokevirtual 72, 3) := by decide +kernel
theorem dX6_dump_80 : decode cX6_dump 80 = .ok (.iload_n 3, 1) := by decide +kernel
theorem dX6_dump_81 : decode cX6_dump 81 = .ok (.iload 4, 2) := by decide +kernel
theorem dX6_dump_83 : decode cX6_dump 83 = .ok (.if_icmp .le 22, 3) := by decide +kernel
theorem dX6_dump_86 : decode cX6_dump 86 = .ok (.aload_n 0, 1) := by decide +kernel
theorem dX6_dump_87 : decode cX6_dump 87 = .ok (.getfield 12, 3) := by decide +kernel
theorem dX6_dump_90 : decode cX6_dump 90 = .ok (.getfield 76, 3) := by decide +kernel
theorem dX6_dump_93 : decode cX6_dump 93 = .ok (.iconst 3, 1) := by decide +kernel
theorem dX6_dump_94 : decode cX6_dump 94 = .ok (.dup2, 1) := by decide +kernel
theorem dX6_dump_95 : decode cX6_dump 95 = .ok (.iaload, 1) := by decide +kernel
theorem dX6_dump_96 : decode cX6_dump 96 = .ok (.iload_n 3, 1) := by decide +kernel
theorem dX6_dump_97 : decode cX6_dump 97 = .ok (.iload 4, 2) := by decide +kernel
theorem dX6_dump_99 : decode cX6_dump 99 = .ok (.isub, 1) := by decide +kernel
theorem dX6_dump_100 : decode cX6_dump 100 = .ok (.iadd, 1) := by decide +kernel
theorem dX6_dump_101 : decode cX6_dump 101 = .ok (.iastore, 1) := by decide +kernel
theorem dX6_dump_102 : decode cX6_dump 102 = .ok (.goto 19, 3) := by decide +kernel
theorem dX6_dump_105 : decode cX6_dump 105 = .ok (.aload_n 0, 1) := by decide +kernel
theorem dX6_dump_106 : decode cX6_dump 106 = .ok (.getfield 12, 3) := by decide +kernel
theorem dX6_dump_109 : decode cX6_dump 109 = .ok (.getfield 76, 3) := by decide +kernel
theorem dX6_dump_112 : decode cX6_dump 112 = .ok (.iconst 4, 1) := by decide +kernel
theorem dX6_dump_113 : decode cX6_dump 113 = .ok (.dup2, 1) := by decide +kernel
theorem dX6_dump_114 : decode cX6_dump 114 = .ok (.iaload, 1) := by decide +kernel
theorem dX6_dump_115 : decode cX6_dump 115 = .ok (.iload 4, 2) := by decide +kernel
theorem dX6_dump_117 : decode cX6_dump 117 = .ok (.iload_n 3, 1) := by decide +kernel
theorem dX6_dump_118 : decode cX6_dump 118 = .ok (.isub, 1) := by decide +kernel
theorem dX6_dump_119 : decode cX6_dump 119 = .ok (.iadd, 1) := by decide +kernel
theorem dX6_dump_120 : decode cX6_dump 120 = .ok (.iastore, 1) := by decide +kernel
theorem dX6_dump_121 : decode cX6_dump 121 = .ok (.iload 4, 2) := by decide +kernel
theorem dX6_dump_123 : decode cX6_dump 123 = .ok (.ireturn, 1) := by decide +kernel
theorem dX6_setLevel_0 : decode cX6_setLevel 0 = .ok (.iload_n 1, 1) := by decide +kernel
theorem dX6_setLevel_1 : decode cX6_setLevel 1 = .ok (.bipush 20, 2) := by decide +kernel
theorem dX6_setLevel_3 : decode cX6_setLevel 3 = .ok (.if_icmp .lt 9, 3) := by decide +kernel
theorem dX6_setLevel_6 : decode cX6_setLevel 6 = .ok (.iload_n 1, 1) := by decide +kernel
theorem dX6_setLevel_7 : decode cX6_setLevel 7 = .ok (.bipush 70, 2) := by decide +kernel
theorem dX6_setLevel_9 : decode cX6_setLevel 9 = .ok (.if_icmp .le 7, 3) := by decide +kernel
theorem dX6_setLevel_12 : decode cX6_setLevel 12 = .ok (.sipush (-1002), 3) := by decide +kernel
theorem dX6_setLevel_15 : decode cX6_setLevel 15 = .ok (.ireturn, 1) := by decide +kernel
theorem dX6_setLevel_16 : decode cX6_setLevel 16 = .ok (.aload_n 0, 1) := by decide +kernel
theorem dX6_setLevel_17 : decode cX6_setLevel 17 = .ok (.getfield 12, 3) := by decide +kernel
theorem dX6_setLevel_20 : decode cX6_setLevel 20 = .ok (.getfield 79, 3) := by decide +kernel
theorem dX6_setLevel_23 : decode cX6_setLevel 23 = .ok (.istore_n 2, 1) := by decide +kernel
theorem dX6_setLevel_24 : decode cX6_setLevel 24 = .ok (.iload_n 2, 1) := by decide +kernel
theorem dX6_setLevel_25 : decode cX6_setLevel 25 = .ok (.iload_n 1, 1) := by decide +kernel
theorem dX6_setLevel_26 : decode cX6_setLevel 26 = .ok (.if_icmp .ne 7, 3) := by decide +kernel
theorem dX6_setLevel_29 : decode cX6_setLevel 29 = .ok (.sipush (-1005), 3) := by decide +kernel
theorem dX6_setLevel_32 : decode cX6_setLevel 32 = .ok (.ireturn, 1) := by decide +kernel
theorem dX6_setLevel_33 : decode cX6_setLevel 33 = .ok (.aload_n 0, 1) := by decide +kernel
theorem dX6_setLevel_34 : decode cX6_setLevel 34 = .ok (.getfield 25, 3) := by decide +kernel
theorem dX6_setLevel_37 : decode cX6_setLevel 37 = .ok (.aload_n 0, 1) := by decide +kernel
theorem dX6_setLevel_38 : decode cX6_setLevel 38 = .ok (.getfield 12, 3) := by decide +kernel
theorem dX6_setLevel_41 : decode cX6_setLevel 41 = .ok (.invokevirtual 68, 3) := by decide +kernel
theorem dX6_setLevel_44 : decode cX6_setLevel 44 = .ok (.aload_n 0, 1) := by decide +kernel
theorem dX6_setLevel_45 : decode cX6_setLevel 45 = .ok (.getfield 12, 3) := by decide +kernel
theorem dX6_setLevel_48 : decode cX6_setLevel 48 = .ok (.iload_n 1, 1) := by decide +kernel
theorem dX6_setLevel_49 : decode cX6_setLevel 49 = .ok (.putfield 79, 3) := by decide +kernel
theorem dX6_setLevel_52 : decode cX6_setLevel 52 = .ok (.iload_n 2, 1) := by decide +kernel
theorem dX6_setLevel_53 : decode cX6_setLevel 53 = .ok (.ireturn, 1) := by decide +kernel
theorem dX6_set_0 : decode cX6_set 0 = .ok (.iload_n 1, 1) := by decide +kernel
theorem dX6_set_1 : decode cX6_set 1 = .ok (.ifCond .lt 8, 3) := by decide +kernel
theorem dX6_set_4 : decode cX6_set 4 = .ok (.iload_n 1, 1) := by decide +kernel
theorem dX6_set_5 : decode cX6_set 5 = .ok (.iconst 4, 1) := by decide +kernel
theorem dX6_set_6 : decode cX6_set 6 = .ok (.if_icmp .lt 7, 3) := by decide +kernel
theorem dX6_set_9 : decode cX6_set 9 = .ok (.sipush (-1002), 3) := by decide +kernel
theorem dX6_set_12 : decode cX6_set 12 = .ok (.ireturn, 1) := by decide +kernel
theorem dX6_set_13 : decode cX6_set 13 = .ok (.iload_n 2, 1) := by decide +kernel
theorem dX6_set_14 : decode cX6_set 14 = .ok (.getstatic 83, 3) := by decide +kernel
theorem dX6_set_17 : decode cX6_set 17 = .ok (.iload_n 1, 1) := by decide +kernel
theorem dX6_set_18 : decode cX6_set 18 = .ok (.iaload, 1) := by decide +kernel
theorem dX6_set_19 : decode cX6_set 19 = .ok (.if_icmp .lt 12, 3) := by decide +kernel
theorem dX6_set_22 : decode cX6_set 22 = .ok (.iload_n 2, 1) := by decide +kernel
theorem dX6_set_23 : decode cX6_set 23 = .ok (.getstatic 86, 3) := by decide +kernel
theorem dX6_set_26 : decode cX6_set 26 = .ok (.iload_n 1, 1) := by decide +kernel
theorem dX6_set_27 : decode cX6_set 27 = .ok (.iaload, 1) := by decide +kernel
theorem dX6_set_28 : decode cX6_set 28 = .ok (.if_icmp .le 7, 3) := by decide +kernel
theorem dX6_set_31 : decode cX6_set 31 = .ok (.sipush (-1002), 3) := by decide +kernel
theorem dX6_set_34 : decode cX6_set 34 = .ok (.ireturn, 1) := by decide +kernel
theorem dX6_set_35 : decode cX6_set 35 = .ok (.aload_n 0, 1) := by decide +kernel
theorem dX6_set_36 : decode cX6_set 36 = .ok (.getfield 12, 3) := by decide +kernel
theorem dX6_set_39 : decode cX6_set 39 = .ok (.getfield 89, 3) := by decide +kernel
theorem dX6_set_42 : decode cX6_set 42 = .ok (.iload_n 1, 1) := by decide +kernel
theorem dX6_set_43 : decode cX6_set 43 = .ok (.iaload, 1) := by decide +kernel
theorem dX6_set_44 : decode cX6_set 44 = .ok (.istore_n 3, 1) := by decide +kernel
theorem dX6_set_45 : decode cX6_set 45 = .ok (.iload_n 3, 1) := by decide +kernel
theorem dX6_set_46 : decode cX6_set 46 = .ok (.iload_n 2, 1) := by decide +kernel
theorem dX6_set_47 : decode cX6_set 47 = .ok (.if_icmp .ne 7, 3) := by decide +kernel
theorem dX6_set_50 : decode cX6_set 50 = .ok (.sipush (-1005), 3) := by decide +kernel
theorem dX6_set_53 : decode cX6_set 53 = .ok (.ireturn, 1) := by decide +kernel
theorem dX6_set_54 : decode cX6_set 54 = .ok (.aload_n 0, 1) := by decide +kernel
theorem dX6_set_55 : decode cX6_set 55 = .ok (.getfield 25, 3) := by decide +kernel
theorem dX6_set_58 : decode cX6_set 58 = .ok (.aload_n 0, 1) := by decide +kernel
theorem dX6_set_59 : decode cX6_set 59 = .ok (.getfield 12, 3) := by decide +kernel
theorem dX6_set_62 : decode cX6_set 62 = .ok (.invokevirtual 68, 3) := by decide +kernel
theorem dX6_set_65 : decode cX6_set 65 = .ok (.aload_n 0, 1) := by decide +kernel
theorem dX6_set_66 : decode cX6_set 66 = .ok (.getfield 12, 3) := by decide +kernel
theorem dX6_set_69 : decode cX6_set 69 = .ok (.getfield 89, 3) := by decide +kernel
theorem dX6_set_72 : decode cX6_set 72 = .ok (.iload_n 1, 1) := by decide +kernel
theorem dX6_set_73 : decode cX6_set 73 = .ok (.iload_n 2, 1) := by decide +kernel
theorem dX6_set_74 : decode cX6_set 74 = .ok (.iastore, 1) := by decide +kernel
theorem dX6_set_75 : decode cX6_set 75 = .ok (.iload_n 3, 1) := by decide +kernel
theorem dX6_set_76 : decode cX6_set 76 = .ok (.ireturn, 1) := by decide +kernel
theorem dX6_wave_0 : decode cX6_wave 0 = .ok (.iload_n 1, 1) := by decide +kernel
theorem dX6_wave_1 : decode cX6_wave 1 = .ok (.invokestatic 54, 3) := by decide +kernel
theorem dX6_wave_4 : decode cX6_wave 4 = .ok (.ifCond .ne 7, 3) := by decide +kernel
theorem dX6_wave_7 : decode cX6_wave 7 = .ok (.sipush (-1001), 3) := by decide +kernel
theorem dX6_wave_10 : decode cX6_wave 10 = .ok (.ireturn, 1) := by decide +kernel
theorem dX6_wave_11 : decode cX6_wave 11 = .ok (.iload_n 2, 1) := by decide +kernel
theorem dX6_wave_12 : decode cX6_wave 12 = .ok (.invokestatic 92, 3) := by decide +kernel
theorem dX6_wave_15 : decode cX6_wave 15 = .ok (.ifCond .ne 7, 3) := by decide +kernel
theorem dX6_wave_18 : decode cX6_wave 18 = .ok (.sipush (-1002), 3) := by decide +kernel
theorem dX6_wave_21 : decode cX6_wave 21 = .ok (.ireturn, 1) := by decide +kernel
theorem dX6_wave_22 : decode cX6_wave 22 = .ok (.aload_n 0, 1) := by decide +kernel
theorem dX6_wave_23 : decode cX6_wave 23 = .ok (.getfield 12, 3) := by decide +kernel
theorem dX6_wave_26 : decode cX6_wave 26 = .ok (.getfield 95, 3) := by decide +kernel
theorem dX6_wave_29 : decode cX6_wave 29 = .ok (.invokevirtual 99, 3) := by decide +kernel
theorem dX6_wave_32 : decode cX6_wave 32 = .ok (.bipush 24, 2) := by decide +kernel
theorem dX6_wave_34 : decode cX6_wave 34 = .ok (.if_icmp .lt 7, 3) := by decide +kernel
theorem dX6_wave_37 : decode cX6_wave 37 = .ok (.sipush (-1003), 3) := by decide +kernel
theorem dX6_wave_40 : decode cX6_wave 40 = .ok (.ireturn, 1) := by decide +kernel
theorem dX6_wave_41 : decode cX6_wave 41 = .ok (.aload_n 0, 1) := by decide +kernel
theorem dX6_wave_42 : decode cX6_wave 42 = .ok (.getfield 25, 3) := by decide +kernel
theorem dX6_wave_45 : decode cX6_wave 45 = .ok (.aload_n 0, 1) := by decide +kernel
theorem dX6_wave_46 : decode cX6_wave 46 = .ok (.getfield 12, 3) := by decide +kernel
theorem dX6_wave_49 : decode cX6_wave 49 = .ok (.invokevirtual 68, 3) := by decide +kernel
theorem dX6_wave_52 : decode cX6_wave 52 = .ok (.aload_n 0, 1) := by decide +kernel
theorem dX6_wave_53 : decode cX6_wave 53 = .ok (.getfield 12, 3) := by decide +kernel
theorem dX6_wave_56 : decode cX6_wave 56 = .ok (.getfield 95, 3) := by decide +kernel
theorem dX6_wave_59 : decode cX6_wave 59 = .ok (.iload_n 1, 1) := by decide +kernel
theorem dX6_wave_60 : decode cX6_wave 60 = .ok (.iload_n 2, 1) := by decide +kernel
theorem dX6_wave_61 : decode cX6_wave 61 = .ok (.invokevirtual 105, 3) := by decide +kernel
theorem dX6_wave_64 : decode cX6_wave 64 = .ok (.aload_n 0, 1) := by decide +kernel
theorem dX6_wave_65 : decode cX6_wave 65 = .ok (.getfield 12, 3) := by decide +kernel
theorem dX6_wave_68 : decode cX6_wave 68 = .ok (.getfield 95, 3) := by decide +kernel
theorem dX6_wave_71 : decode cX6_wave 71 = .ok (.invokevirtual 99, 3) := by decide +kernel
theorem dX6_wave_74 : decode cX6_wave 74 = .ok (.ireturn, 1) := by decide +kernel
theorem dX6_waveAll_0 : decode cX6_waveAll 0 = .ok (.aload_n 0, 1) := by decide +kernel
theorem dX6_waveAll_1 : decode cX6_waveAll 1 = .ok (.getfield 32, 3) := by decide +kernel
theorem dX6_waveAll_4 : decode cX6_waveAll 4 = .ok (.invokevirtual 109, 3) := by decide +kernel
theorem dX6_waveAll_7 : decode cX6_waveAll 7 = .ok (.istore_n 1, 1) := by decide +kernel
theorem dX6_waveAll_8 : decode cX6_waveAll 8 = .ok (.iload_n 1, 1) := by decide +kernel
theorem dX6_waveAll_9 : decode cX6_waveAll 9 = .ok (.ifCond .lt 9, 3) := by decide +kernel
theorem dX6_waveAll_12 : decode cX6_waveAll 12 = .ok (.sipush (-2000), 3) := by decide +kernel
theorem dX6_waveAll_15 : decode cX6_waveAll 15 = .ok (.iload_n 1, 1) := by decide +kernel
theorem dX6_waveAll_16 : decode cX6_waveAll 16 = .ok (.isub, 1) := by decide +kernel
theorem dX6_waveAll_17 : decode cX6_waveAll 17 = .ok (.ireturn, 1) := by decide +kernel
theorem dX6_waveAll_18 : decode cX6_waveAll 18 = .ok (.aload_n 0, 1) := by decide +kernel
theorem dX6_waveAll_19 : decode cX6_waveAll 19 = .ok (.getfield 32, 3) := by decide +kernel
theorem dX6_waveAll_22 : decode cX6_waveAll 22 = .ok (.invokevirtual 112, 3) := by decide +kernel
theorem dX6_waveAll_25 : decode cX6_waveAll 25 = .ok (.istore_n 2, 1) := by decide +kernel
theorem dX6_waveAll_26 : decode cX6_waveAll 26 = .ok (.aload_n 0, 1) := by decide +kernel
theorem dX6_waveAll_27 : decode cX6_waveAll 27 = .ok (.getfield 12, 3) := by decide +kernel
theorem dX6_waveAll_30 : decode cX6_waveAll 30 = .ok (.getfield 95, 3) := by decide +kernel
theorem dX6_waveAll_33 : decode cX6_waveAll 33 = .ok (.invokevirtual 99, 3) := by decide +kernel
theorem dX6_waveAll_36 : decode cX6_waveAll 36 = .ok (.iload_n 2, 1) := by decide +kernel
theorem dX6_waveAll_37 : decode cX6_waveAll 37 = .ok (.iadd, 1) := by decide +kernel
theorem dX6_waveAll_38 : decode cX6_waveAll 38 = .ok (.bipush 24, 2) := by decide +kernel
theorem dX6_waveAll_40 : decode cX6_waveAll 40 = .ok (.if_icmp .le 7, 3) := by decide +kernel
theorem dX6_waveAll_43 : decode cX6_waveAll 43 = .ok (.sipush (-1003), 3) := by decide +kernel
theorem dX6_waveAll_46 : decode cX6_waveAll 46 = .ok (.ireturn, 1) := by decide +kernel
theorem dX6_waveAll_47 : decode cX6_waveAll 47 = .ok (.aload_n 0, 1) := by decide +kernel
theorem dX6_waveAll_48 : decode cX6_waveAll 48 = .ok (.getfield 25, 3) := by decide +kernel
theorem dX6_waveAll_51 : decode cX6_waveAll 51 = .ok (.aload_n 0, 1) := by decide +kernel
theorem dX6_waveAll_52 : decode cX6_waveAll 52 = .ok (.getfield 12, 3) := by decide +kernel
theorem dX6_waveAll_55 : decode cX6_waveAll 55 = .ok (.invokevirtual 68, 3) := by decide +kernel
theorem dX6_waveAll_58 : decode cX6_waveAll 58 = .ok (.aload_n 0, 1) := by decide +kernel
theorem dX6_waveAll_59 : decode cX6_waveAll 59 = .ok (.getfield 12, 3) := by decide +kernel
theorem dX6_waveAll_62 : decode cX6_waveAll 62 = .ok (.getfield 95, 3) := by decide +kernel
theorem dX6_waveAll_65 : decode cX6_waveAll 65 = .ok (.aload_n 0, 1) := by decide +kernel
theorem dX6_waveAll_66 : decode cX6_waveAll 66 = .ok (.getfield 32, 3) := by decide +kernel
theorem dX6_waveAll_69 : decode cX6_waveAll 69 = .ok (.invokevirtual 115, 3) := by decide +kernel
theorem dX6_waveAll_72 : decode cX6_waveAll 72 = .ok (.invokevirtual 118, 3) := by decide +kernel
theorem dX6_waveAll_75 : decode cX6_waveAll 75 = .ok (.iload_n 2, 1) := by decide +kernel
theorem dX6_waveAll_76 : decode cX6_waveAll 76 = .ok (.ireturn, 1) := by decide +kernel
theorem dX6_strike_0 : decode cX6_strike 0 = .ok (.iload_n 1, 1) := by decide +kernel
theorem dX6_strike_1 : decode cX6_strike 1 = .ok (.invokestatic 92, 3) := by decide +kernel
theorem dX6_strike_4 : decode cX6_strike 4 = .ok (.ifCond .eq 15, 3) := by decide +kernel
theorem dX6_strike_7 : decode cX6_strike 7 = .ok (.iload_n 2, 1) := by decide +kernel
theorem dX6_strike_8 : decode cX6_strike 8 = .ok (.invokestatic 92, 3) := by decide +kernel
theorem dX6_strike_11 : decode cX6_strike 11 = .ok (.ifCond .eq 8, 3) := by decide +kernel
theorem dX6_strike_14 : decode cX6_strike 14 = .ok (.iload_n 2, 1) := by decide +kernel
theorem dX6_strike_15 : decode cX6_strike 15 = .ok (.iload_n 1, 1) := by decide +kernel
theorem dX6_strike_16 : decode cX6_strike 16 = .ok (.if_icmp .ge 7, 3) := by decide +kernel
theorem dX6_strike_19 : decode cX6_strike 19 = .ok (.sipush (-1002), 3) := by decide +kernel
theorem dX6_strike_22 : decode cX6_strike 22 = .ok (.ireturn, 1) := by decide +kernel
theorem dX6_strike_23 : decode cX6_strike 23 = .ok (.aload_n 0, 1) := by decide +kernel
theorem dX6_strike_24 : decode cX6_strike 24 = .ok (.getfield 12, 3) := by decide +kernel
theorem dX6_strike_27 : decode cX6_strike 27 = .ok (.getfield 95, 3) := by decide +kernel
theorem dX6_strike_30 : decode cX6_strike 30 = .ok (.iload_n 1, 1) := by decide +kernel
theorem dX6_strike_31 : decode cX6_strike 31 = .ok (.iload_n 2, 1) := by decide +kernel
theorem dX6_strike_32 : decode cX6_strike 32 = .ok (.invokevirtual 122, 3) := by decide +kernel
theorem dX6_strike_35 : decode cX6_strike 35 = .ok (.ifCond .ne 7, 3) := by decide +kernel
theorem dX6_strike_38 : decode cX6_strike 38 = .ok (.sipush (-1005), 3) := by decide +kernel
theorem dX6_strike_41 : decode cX6_strike 41 = .ok (.ireturn, 1) := by decide +kernel
theorem dX6_strike_42 : decode cX6_strike 42 = .ok (.aload_n 0, 1) := by decide +kernel
theorem dX6_strike_43 : decode cX6_strike 43 = .ok (.getfield 25, 3) := by decide +kernel
theorem dX6_strike_46 : decode cX6_strike 46 = .ok (.aload_n 0, 1) := by decide +kernel
theorem dX6_strike_47 : decode cX6_strike 47 = .ok (.getfield 12, 3) := by decide +kernel
theorem dX6_strike_50 : decode cX6_strike 50 = .ok (.invokevirtual 68, 3) := by decide +kernel
theorem dX6_strike_53 : decode cX6_strike 53 = .ok (.aload_n 0, 1) := by decide +kernel
theorem dX6_strike_54 : decode cX6_strike 54 = .ok (.getfield 12, 3) := by decide +kernel
theorem dX6_strike_57 : decode cX6_strike 57 = .ok (.getfield 95, 3) := by decide +kernel
theorem dX6_strike_60 : decode cX6_strike 60 = .ok (.iload_n 1, 1) := by decide +kernel
theorem dX6_strike_61 : decode cX6_strike 61 = .ok (.iload_n 2, 1) := by decide +kernel
theorem dX6_strike_62 : decode cX6_strike 62 = .ok (.invokevirtual 126, 3) := by decide +kernel
theorem dX6_strike_65 : decode cX6_strike 65 = .ok (.ireturn, 1) := by decide +kernel
theorem dX6_run_0 : decode cX6_run 0 = .ok (.iload_n 1, 1) := by decide +kernel
theorem dX6_run_1 : decode cX6_run 1 = .ok (.ifCond .lt 9, 3) := by decide +kernel
theorem dX6_run_4 : decode cX6_run 4 = .ok (.iload_n 1, 1) := by decide +kernel
theorem dX6_run_5 : decode cX6_run 5 = .ok (.bipush 30, 2) := by decide +kernel
theorem dX6_run_7 : decode cX6_run 7 = .ok (.if_icmp .le 7, 3) := by decide +kernel
theorem dX6_run_10 : decode cX6_run 10 = .ok (.sipush (-1002), 3) := by decide +kernel
theorem dX6_run_13 : decode cX6_run 13 = .ok (.ireturn, 1) := by decide +kernel
theorem dX6_run_14 : decode cX6_run 14 = .ok (.aload_n 0, 1) := by decide +kernel
theorem dX6_run_15 : decode cX6_run 15 = .ok (.getfield 12, 3) := by decide +kernel
theorem dX6_run_18 : decode cX6_run 18 = .ok (.getfield 95, 3) := by decide +kernel
theorem dX6_run_21 : decode cX6_run 21 = .ok (.invokevirtual 99, 3) := by decide +kernel
theorem dX6_run_24 : decode cX6_run 24 = .ok (.ifCond .ne 7, 3) := by decide +kernel
theorem dX6_run_27 : decode cX6_run 27 = .ok (.sipush (-1005), 3) := by decide +kernel
theorem dX6_run_30 : decode cX6_run 30 = .ok (.ireturn, 1) := by decide +kernel
theorem dX6_run_31 : decode cX6_run 31 = .ok (.aload_n 0, 1) := by decide +kernel
theorem dX6_run_32 : decode cX6_run 32 = .ok (.getfield 25, 3) := by decide +kernel
theorem dX6_run_35 : decode cX6_run 35 = .ok (.aload_n 0, 1) := by decide +kernel
theorem dX6_run_36 : decode cX6_run 36 = .ok (.getfield 12, 3) := by decide +kernel
theorem dX6_run_39 : decode cX6_run 39 = .ok (.invokevirtual 68, 3) := by decide +kernel
theorem dX6_run_42 : decode cX6_run 42 = .ok (.aload_n 0, 1) := by decide +kernel
theorem dX6_run_43 : decode cX6_run 43 = .ok (.getfield 12, 3) := by decide +kernel
theorem dX6_run_46 : decode cX6_run 46 = .ok (.getfield 79, 3) := by decide +kernel
theorem dX6_run_49 : decode cX6_run 49 = .ok (.iload_n 1, 1) := by decide +kernel
theorem dX6_run_50 : decode cX6_run 50 = .ok (.iadd, 1) := by decide +kernel
theorem dX6_run_51 : decode cX6_run 51 = .ok (.istore_n 2, 1) := by decide +kernel
theorem dX6_run_52 : decode cX6_run 52 = .ok (.aload_n 0, 1) := by decide +kernel
theorem dX6_run_53 : decode cX6_run 53 = .ok (.iload_n 2, 1) := by decide +kernel
theorem dX6_run_54 : decode cX6_run 54 = .ok (.invokevirtual 129, 3) := by decide +kernel
theorem dX6_run_57 : decode cX6_run 57 = .ok (.istore_n 3, 1) := by decide +kernel
theorem dX6_run_58 : decode cX6_run 58 = .ok (.aload_n 0, 1) := by decide +kernel
theorem dX6_run_59 : decode cX6_run 59 = .ok (.iload_n 2, 1) := by decide +kernel
theorem dX6_run_60 : decode cX6_run 60 = .ok (.invokevirtual 133, 3) := by decide +kernel
theorem dX6_run_63 : decode cX6_run 63 = .ok (.pop, 1) := by decide +kernel
theorem dX6_run_64 : decode cX6_run 64 = .ok (.aload_n 0, 1) := by decide +kernel
theorem dX6_run_65 : decode cX6_run 65 = .ok (.getfield 12, 3) := by decide +kernel
theorem dX6_run_68 : decode cX6_run 68 = .ok (.getfield 95, 3) := by decide +kernel
theorem dX6_run_71 : decode cX6_run 71 = .ok (.invokevirtual 136, 3) := by decide +kernel
theorem dX6_run_74 : decode cX6_run 74 = .ok (.iload_n 3, 1) := by decide +kernel
theorem dX6_run_75 : decode cX6_run 75 = .ok (.ireturn, 1) := by decide +kernel
theorem dX6_settle_0 : decode cX6_settle 0 = .ok (.aload_n 0, 1) := by decide +kernel
theorem dX6_settle_1 : decode cX6_settle 1 = .ok (.getfield 16, 3) := by decide +kernel
theorem dX6_settle_4 : decode cX6_settle 4 = .ok (.aload_n 0, 1) := by decide +kernel
theorem dX6_settle_5 : decode cX6_settle 5 = .ok (.getfield 12, 3) := by decide +kernel
theorem dX6_settle_8 : decode cX6_settle 8 = .ok (.invokevirtual 139, 3) := by decide +kernel
theorem dX6_settle_11 : decode cX6_settle 11 = .ok (.aload_n 0, 1) := by decide +kernel
theorem dX6_settle_12 : decode cX6_settle 12 = .ok (.aload_n 0, 1) := by decide +kernel
theorem dX6_settle_13 : decode cX6_settle 13 = .ok (.getfield 12, 3) := by decide +kernel
theorem dX6_settle_16 : decode cX6_settle 16 = .ok (.getfield 79, 3) := by decide +kernel
theorem dX6_settle_19 : decode cX6_settle 19 = .ok (.invokevirtual 133, 3) := by decide +kernel
theorem dX6_settle_22 : decode cX6_settle 22 = .ok (.istore_n 1, 1) := by decide +kernel
theorem dX6_settle_23 : decode cX6_settle 23 = .ok (.iload_n 1, 1) := by decide +kernel
theorem dX6_settle_24 : decode cX6_settle 24 = .ok (.ifCond .ne 7, 3) := by decide +kernel
theorem dX6_settle_27 : decode cX6_settle 27 = .ok (.sipush (-1005), 3) := by decide +kernel
theorem dX6_settle_30 : decode cX6_settle 30 = .ok (.ireturn, 1) := by decide +kernel
theorem dX6_settle_31 : decode cX6_settle 31 = .ok (.aload_n 0, 1) := by decide +kernel
theorem dX6_settle_32 : decode cX6_settle 32 = .ok (.getfield 25, 3) := by decide +kernel
theorem dX6_settle_35 : decode cX6_settle 35 = .ok (.aload_n 0, 1) := by decide +kernel
theorem dX6_settle_36 : decode cX6_settle 36 = .ok (.getfield 16, 3) := by decide +kernel
theorem dX6_settle_39 : decode cX6_settle 39 = .ok (.invokevirtual 68, 3) := by decide +kernel
theorem dX6_settle_42 : decode cX6_settle 42 = .ok (.iload_n 1, 1) := by decide +kernel
theorem dX6_settle_43 : decode cX6_settle 43 = .ok (.ireturn, 1) := by decide +kernel
theorem dX6_type_0 : decode cX6_type 0 = .ok (.aload_n 0, 1) := by decide +kernel
theorem dX6_type_1 : decode cX6_type 1 = .ok (.getfield 32, 3) := by decide +kernel
theorem dX6_type_4 : decode cX6_type 4 = .ok (.invokevirtual 142, 3) := by decide +kernel
theorem dX6_type_7 : decode cX6_type 7 = .ok (.bipush 60, 2) := by decide +kernel
theorem dX6_type_9 : decode cX6_type 9 = .ok (.if_icmp .lt 7, 3) := by decide +kernel
theorem dX6_type_12 : decode cX6_type 12 = .ok (.sipush (-1003), 3) := by decide +kernel
theorem dX6_type_15 : decode cX6_type 15 = .ok (.ireturn, 1) := by decide +kernel
theorem dX6_type_16 : decode cX6_type 16 = .ok (.aload_n 0, 1) := by decide +kernel
theorem dX6_type_17 : decode cX6_type 17 = .ok (.getfield 32, 3) := by decide +kernel
theorem dX6_type_20 : decode cX6_type 20 = .ok (.iload_n 1, 1) := by decide +kernel
theorem dX6_type_21 : decode cX6_type 21 = .ok (.invokevirtual 145, 3) := by decide +kernel
theorem dX6_type_24 : decode cX6_type 24 = .ok (.aload_n 0, 1) := by decide +kernel
theorem dX6_type_25 : decode cX6_type 25 = .ok (.getfield 32, 3) := by decide +kernel
theorem dX6_type_28 : decode cX6_type 28 = .ok (.invokevirtual 142, 3) := by decide +kernel
theorem dX6_type_31 : decode cX6_type 31 = .ok (.ireturn, 1) := by decide +kernel
theorem dX6_clearText_0 : decode cX6_clearText 0 = .ok (.aload_n 0, 1) := by decide +kernel
theorem dX6_clearText_1 : decode cX6_clearText 1 = .ok (.getfield 32, 3) := by decide +kernel
theorem dX6_clearText_4 : decode cX6_clearText 4 = .ok (.invokevirtual 142, 3) := by decide +kernel
theorem dX6_clearText_7 : decode cX6_clearText 7 = .ok (.istore_n 1, 1) := by decide +kernel
theorem dX6_clearText_8 : decode cX6_clearText 8 = .ok (.aload_n 0, 1) := by decide +kernel
theorem dX6_clearText_9 : decode cX6_clearText 9 = .ok (.getfield 32, 3) := by decide +kernel
theorem dX6_clearText_12 : decode cX6_clearText 12 = .ok (.invokevirtual 148, 3) := by decide +kernel
theorem dX6_clearText_15 : decode cX6_clearText 15 = .ok (.iload_n 1, 1) := by decide +kernel
theorem dX6_clearText_16 : decode cX6_clearText 16 = .ok (.ireturn, 1) := by decide +kernel
theorem dX6_undo_0 : decode cX6_undo 0 = .ok (.aload_n 0, 1) := by decide +kernel
theorem dX6_undo_1 : decode cX6_undo 1 = .ok (.getfield 25, 3) := by decide +kernel
theorem dX6_undo_4 : decode cX6_undo 4 = .ok (.invokevirtual 151, 3) := by decide +kernel
theorem dX6_undo_7 : decode cX6_undo 7 = .ok (.ifCond .ne 7, 3) := by decide +kernel
theorem dX6_undo_10 : decode cX6_undo 10 = .ok (.sipush (-1005), 3) := by decide +kernel
theorem dX6_undo_13 : decode cX6_undo 13 = .ok (.ireturn, 1) := by decide +kernel
theorem dX6_undo_14 : decode cX6_undo 14 = .ok (.aload_n 0, 1) := by decide +kernel
theorem dX6_undo_15 : decode cX6_undo 15 = .ok (.getfield 25, 3) := by decide +kernel
theorem dX6_undo_18 : decode cX6_undo 18 = .ok (.aload_n 0, 1) := by decide +kernel
theorem dX6_undo_19 : decode cX6_undo 19 = .ok (.getfield 12, 3) := by decide +kernel
theorem dX6_undo_22 : decode cX6_undo 22 = .ok (.invokevirtual 152, 3) := by decide +kernel
theorem dX6_undo_25 : decode cX6_undo 25 = .ok (.aload_n 0, 1) := by decide +kernel
theorem dX6_undo_26 : decode cX6_undo 26 = .ok (.getfield 25, 3) := by decide +kernel
theorem dX6_undo_29 : decode cX6_undo 29 = .ok (.invokevirtual 151, 3) := by decide +kernel
theorem dX6_undo_32 : decode cX6_undo 32 = .ok (.ireturn, 1) := by decide +kernel
theorem dX6_keep_0 : decode cX6_keep 0 = .ok (.aload_n 0, 1) := by decide +kernel
theorem dX6_keep_1 : decode cX6_keep 1 = .ok (.getfield 19, 3) := by decide +kernel
theorem dX6_keep_4 : decode cX6_keep 4 = .ok (.aload_n 0, 1) := by decide +kernel
theorem dX6_keep_5 : decode cX6_keep 5 = .ok (.getfield 12, 3) := by decide +kernel
theorem dX6_keep_8 : decode cX6_keep 8 = .ok (.invokevirtual 139, 3) := by decide +kernel
theorem dX6_keep_11 : decode cX6_keep 11 = .ok (.aload_n 0, 1) := by decide +kernel
theorem dX6_keep_12 : decode cX6_keep 12 = .ok (.iconst 1, 1) := by decide +kernel
theorem dX6_keep_13 : decode cX6_keep 13 = .ok (.putfield 155, 3) := by decide +kernel
theorem dX6_keep_16 : decode cX6_keep 16 = .ok (.aload_n 0, 1) := by decide +kernel
theorem dX6_keep_17 : decode cX6_keep 17 = .ok (.getfield 12, 3) := by decide +kernel
theorem dX6_keep_20 : decode cX6_keep 20 = .ok (.getfield 61, 3) := by decide +kernel
theorem dX6_keep_23 : decode cX6_keep 23 = .ok (.invokevirtual 159, 3) := by decide +kernel
theorem dX6_keep_26 : decode cX6_keep 26 = .ok (.ireturn, 1) := by decide +kernel
theorem dX6_restore_0 : decode cX6_restore 0 = .ok (.aload_n 0, 1) := by decide +kernel
theorem dX6_restore_1 : decode cX6_restore 1 = .ok (.getfield 155, 3) := by decide +kernel
theorem dX6_restore_4 : decode cX6_restore 4 = .ok (.ifCond .ne 7, 3) := by decide +kernel
theorem dX6_restore_7 : decode cX6_restore 7 = .ok (.sipush (-1005), 3) := by decide +kernel
theorem dX6_restore_10 : decode cX6_restore 10 = .ok (.ireturn, 1) := by decide +kernel
theorem dX6_restore_11 : decode cX6_restore 11 = .ok (.aload_n 0, 1) := by decide +kernel
theorem dX6_restore_12 : decode cX6_restore 12 = .ok (.getfield 25, 3) := by decide +kernel
theorem dX6_restore_15 : decode cX6_restore 15 = .ok (.aload_n 0, 1) := by decide +kernel
theorem dX6_restore_16 : decode cX6_restore 16 = .ok (.getfield 12, 3) := by decide +kernel
theorem dX6_restore_19 : decode cX6_restore 19 = .ok (.invokevirtual 68, 3) := by decide +kernel
theorem dX6_restore_22 : decode cX6_restore 22 = .ok (.aload_n 0, 1) := by decide +kernel
theorem dX6_restore_23 : decode cX6_restore 23 = .ok (.getfield 12, 3) := by decide +kernel
theorem dX6_restore_26 : decode cX6_restore 26 = .ok (.aload_n 0, 1) := by decide +kernel
theorem dX6_restore_27 : decode cX6_restore 27 = .ok (.getfield 19, 3) := by decide +kernel
theorem dX6_restore_30 : decode cX6_restore 30 = .ok (.invokevirtual 139, 3) := by decide +kernel
theorem dX6_restore_33 : decode cX6_restore 33 = .ok (.aload_n 0, 1) := by decide +kernel
theorem dX6_restore_34 : decode cX6_restore 34 = .ok (.getfield 12, 3) := by decide +kernel
theorem dX6_restore_37 : decode cX6_restore 37 = .ok (.getfield 61, 3) := by decide +kernel
theorem dX6_restore_40 : decode cX6_restore 40 = .ok (.invokevirtual 159, 3) := by decide +kernel
theorem dX6_restore_43 : decode cX6_restore 43 = .ok (.ireturn, 1) := by decide +kernel
theorem dX6_cell_0 : decode cX6_cell 0 = .ok (.iload_n 1, 1) := by decide +kernel
theorem dX6_cell_1 : decode cX6_cell 1 = .ok (.invokestatic 54, 3) := by decide +kernel
theorem dX6_cell_4 : decode cX6_cell 4 = .ok (.ifCond .eq 10, 3) := by decide +kernel
theorem dX6_cell_7 : decode cX6_cell 7 = .ok (.iload_n 2, 1) := by decide +kernel
theorem dX6_cell_8 : decode cX6_cell 8 = .ok (.invokestatic 58, 3) := by decide +kernel
theorem dX6_cell_11 : decode cX6_cell 11 = .ok (.ifCond .ne 7, 3) := by decide +kernel
theorem dX6_cell_14 : decode cX6_cell 14 = .ok (.sipush (-1001), 3) := by decide +kernel
theorem dX6_cell_17 : decode cX6_cell 17 = .ok (.ireturn, 1) := by decide +kernel
theorem dX6_cell_18 : decode cX6_cell 18 = .ok (.aload_n 0, 1) := by decide +kernel
theorem dX6_cell_19 : decode cX6_cell 19 = .ok (.getfield 12, 3) := by decide +kernel
theorem dX6_cell_22 : decode cX6_cell 22 = .ok (.getfield 61, 3) := by decide +kernel
theorem dX6_cell_25 : decode cX6_cell 25 = .ok (.astore 4, 2) := by decide +kernel
theorem dX6_cell_27 : decode cX6_cell 27 = .ok (.iload_n 3, 1) := by decide +kernel
theorem dX6_cell_28 : decode cX6_cell 28 = .ok (.tableswitch 128 0 4 #[36, 44, 60, 83, 115], 36) := by decide +kernel
theorem dX6_cell_64 : decode cX6_cell 64 = .ok (.aload 4, 2) := by decide +kernel
theorem dX6_cell_66 : decode cX6_cell 66 = .ok (.iload_n 1, 1) := by decide +kernel
theorem dX6_cell_67 : decode cX6_cell 67 = .ok (.iload_n 2, 1) := by decide +kernel
theorem dX6_cell_68 : decode cX6_cell 68 = .ok (.invokevirtual 64, 3) := by decide +kernel
theorem dX6_cell_71 : decode cX6_cell 71 = .ok (.ireturn, 1) := by decide +kernel
theorem dX6_cell_72 : decode cX6_cell 72 = .ok (.aload_n 0, 1) := by decide +kernel
theorem dX6_cell_73 : decode cX6_cell 73 = .ok (.getfield 12, 3) := by decide +kernel
theorem dX6_cell_76 : decode cX6_cell 76 = .ok (.getfield 79, 3) := by decide +kernel
theorem dX6_cell_79 : decode cX6_cell 79 = .ok (.aload 4, 2) := by decide +kernel
theorem dX6_cell_81 : decode cX6_cell 81 = .ok (.iload_n 1, 1) := by decide +kernel
theorem dX6_cell_82 : decode cX6_cell 82 = .ok (.iload_n 2, 1) := by decide +kernel
theorem dX6_cell_83 : decode cX6_cell 83 = .ok (.invokevirtual 64, 3) := by decide +kernel
theorem dX6_cell_86 : decode cX6_cell 86 = .ok (.isub, 1) := by decide +kernel
theorem dX6_cell_87 : decode cX6_cell 87 = .ok (.ireturn, 1) := by decide +kernel
theorem dX6_cell_88 : decode cX6_cell 88 = .ok (.aload 4, 2) := by decide +kernel
theorem dX6_cell_90 : decode cX6_cell 90 = .ok (.iload_n 1, 1) := by decide +kernel
theorem dX6_cell_91 : decode cX6_cell 91 = .ok (.iload_n 2, 1) := by decide +kernel
theorem dX6_cell_92 : decode cX6_cell 92 = .ok (.aload_n 0, 1) := by decide +kernel
theorem dX6_cell_93 : decode cX6_cell 93 = .ok (.getfield 12, 3) := by decide +kernel
theorem dX6_cell_96 : decode cX6_cell 96 = .ok (.getfield 79, 3) := by decide +kernel
theorem dX6_cell_99 : decode cX6_cell 99 = .ok (.invokevirtual 162, 3) := by decide +kernel
theorem dX6_cell_102 : decode cX6_cell 102 = .ok (.ifCond .eq 7, 3) := by decide +kernel
theorem dX6_cell_105 : decode cX6_cell 105 = .ok (.iconst 1, 1) := by decide +kernel
theorem dX6_cell_106 : decode cX6_cell 106 = .ok (.goto 4, 3) := by decide +kernel
theorem dX6_cell_109 : decode cX6_cell 109 = .ok (.iconst 0, 1) := by decide +kernel
theorem dX6_cell_110 : decode cX6_cell 110 = .ok (.ireturn, 1) := by decide +kernel
theorem dX6_cell_111 : decode cX6_cell 111 = .ok (.aload 4, 2) := by decide +kernel
theorem dX6_cell_113 : decode cX6_cell 113 = .ok (.iload_n 1, 1) := by decide +kernel
theorem dX6_cell_114 : decode cX6_cell 114 = .ok (.iload_n 2, 1) := by decide +kernel
theorem dX6_cell_115 : decode cX6_cell 115 = .ok (.aload_n 0, 1) := by decide +kernel
theorem dX6_cell_116 : decode cX6_cell 116 = .ok (.getfield 12, 3) := by decide +kernel
theorem dX6_cell_119 : decode cX6_cell 119 = .ok (.getfield 79, 3) := by decide +kernel
theorem dX6_cell_122 : decode cX6_cell 122 = .ok (.aload_n 0, 1) := by decide +kernel
theorem dX6_cell_123 : decode cX6_cell 123 = .ok (.getfield 12, 3) := by decide +kernel
theorem dX6_cell_126 : decode cX6_cell 126 = .ok (.getfield 89, 3) := by decide +kernel
theorem dX6_cell_129 : decode cX6_cell 129 = .ok (.iconst 2, 1) := by decide +kernel
theorem dX6_cell_130 : decode cX6_cell 130 = .ok (.iaload, 1) := by decide +kernel
theorem dX6_cell_131 : decode cX6_cell 131 = .ok (.invokevirtual 166, 3) := by decide +kernel
theorem dX6_cell_134 : decode cX6_cell 134 = .ok (.ifCond .eq 7, 3) := by decide +kernel
theorem dX6_cell_137 : decode cX6_cell 137 = .ok (.iconst 1, 1) := by decide +kernel
theorem dX6_cell_138 : decode cX6_cell 138 = .ok (.goto 4, 3) := by decide +kernel
theorem dX6_cell_141 : decode cX6_cell 141 = .ok (.iconst 0, 1) := by decide +kernel
theorem dX6_cell_142 : decode cX6_cell 142 = .ok (.ireturn, 1) := by decide +kernel
theorem dX6_cell_143 : decode cX6_cell 143 = .ok (.aload 4, 2) := by decide +kernel
theorem dX6_cell_145 : decode cX6_cell 145 = .ok (.iload_n 1, 1) := by decide +kernel
theorem dX6_cell_146 : decode cX6_cell 146 = .ok (.iload_n 2, 1) := by decide +kernel
theorem dX6_cell_147 : decode cX6_cell 147 = .ok (.invokevirtual 64, 3) := by decide +kernel
theorem dX6_cell_150 : decode cX6_cell 150 = .ok (.iload_n 2, 1) := by decide +kernel
theorem dX6_cell_151 : decode cX6_cell 151 = .ok (.invokestatic 170, 3) := by decide +kernel
theorem dX6_cell_154 : decode cX6_cell 154 = .ok (.isub, 1) := by decide +kernel
theorem dX6_cell_155 : decode cX6_cell 155 = .ok (.ireturn, 1) := by decide +kernel
theorem dX6_cell_156 : decode cX6_cell 156 = .ok (.sipush (-1002), 3) := by decide +kernel
theorem dX6_cell_159 : decode cX6_cell 159 = .ok (.ireturn, 1) := by decide +kernel
theorem dX6_row_0 : decode cX6_row 0 = .ok (.iload_n 1, 1) := by decide +kernel
theorem dX6_row_1 : decode cX6_row 1 = .ok (.invokestatic 54, 3) := by decide +kernel
theorem dX6_row_4 : decode cX6_row 4 = .ok (.ifCond .ne 7, 3) := by decide +kernel
theorem dX6_row_7 : decode cX6_row 7 = .ok (.sipush (-1001), 3) := by decide +kernel
theorem dX6_row_10 : decode cX6_row 10 = .ok (.ireturn, 1) := by decide +kernel
theorem dX6_row_11 : decode cX6_row 11 = .ok (.aload_n 0, 1) := by decide +kernel
theorem dX6_row_12 : decode cX6_row 12 = .ok (.getfield 12, 3) := by decide +kernel
theorem dX6_row_15 : decode cX6_row 15 = .ok (.getfield 61, 3) := by decide +kernel
theorem dX6_row_18 : decode cX6_row 18 = .ok (.astore_n 3, 1) := by decide +kernel
theorem dX6_row_19 : decode cX6_row 19 = .ok (.iload_n 2, 1) := by decide +kernel
theorem dX6_row_20 : decode cX6_row 20 = .ok (.tableswitch 136 0 6 #[44, 50, 66, 91, 104, 110, 123], 44) := by decide +kernel
theorem dX6_row_64 : decode cX6_row 64 = .ok (.aload_n 3, 1) := by decide +kernel
theorem dX6_row_65 : decode cX6_row 65 = .ok (.iload_n 1, 1) := by decide +kernel
theorem dX6_row_66 : decode cX6_row 66 = .ok (.invokevirtual 173, 3) := by decide +kernel
theorem dX6_row_69 : decode cX6_row 69 = .ok (.ireturn, 1) := by decide +kernel
theorem dX6_row_70 : decode cX6_row 70 = .ok (.aload_n 3, 1) := by decide +kernel
theorem dX6_row_71 : decode cX6_row 71 = .ok (.iload_n 1, 1) := by decide +kernel
theorem dX6_row_72 : decode cX6_row 72 = .ok (.aload_n 0, 1) := by decide +kernel
theorem dX6_row_73 : decode cX6_row 73 = .ok (.getfield 12, 3) := by decide +kernel
theorem dX6_row_76 : decode cX6_row 76 = .ok (.getfield 79, 3) := by decide +kernel
theorem dX6_row_79 : decode cX6_row 79 = .ok (.invokevirtual 176, 3) := by decide +kernel
theorem dX6_row_82 : decode cX6_row 82 = .ok (.invokestatic 179, 3) := by decide +kernel
theorem dX6_row_85 : decode cX6_row 85 = .ok (.ireturn, 1) := by decide +kernel
theorem dX6_row_86 : decode cX6_row 86 = .ok (.aload_n 3, 1) := by decide +kernel
theorem dX6_row_87 : decode cX6_row 87 = .ok (.iload_n 1, 1) := by decide +kernel
theorem dX6_row_88 : decode cX6_row 88 = .ok (.aload_n 0, 1) := by decide +kernel
theorem dX6_row_89 : decode cX6_row 89 = .ok (.getfield 12, 3) := by decide +kernel
theorem dX6_row_92 : decode cX6_row 92 = .ok (.getfield 79, 3) := by decide +kernel
theorem dX6_row_95 : decode cX6_row 95 = .ok (.aload_n 0, 1) := by decide +kernel
theorem dX6_row_96 : decode cX6_row 96 = .ok (.getfield 12, 3) := by decide +kernel
theorem dX6_row_99 : decode cX6_row 99 = .ok (.getfield 89, 3) := by decide +kernel
theorem dX6_row_102 : decode cX6_row 102 = .ok (.iconst 2, 1) := by decide +kernel
theorem dX6_row_103 : decode cX6_row 103 = .ok (.iaload, 1) := by decide +kernel
theorem dX6_row_104 : decode cX6_row 104 = .ok (.invokevirtual 184, 3) := by decide +kernel
theorem dX6_row_107 : decode cX6_row 107 = .ok (.invokestatic 179, 3) := by decide +kernel
theorem dX6_row_110 : decode cX6_row 110 = .ok (.ireturn, 1) := by decide +kernel
theorem dX6_row_111 : decode cX6_row 111 = .ok (.aload_n 3, 1) := by decide +kernel
theorem dX6_row_112 : decode cX6_row 112 = .ok (.iload_n 1, 1) := by decide +kernel
theorem dX6_row_113 : decode cX6_row 113 = .ok (.aload_n 0, 1) := by decide +kernel
theorem dX6_row_114 : decode cX6_row 114 = .ok (.getfield 12, 3) := by decide +kernel
theorem dX6_row_117 : decode cX6_row 117 = .ok (.getfield 79, 3) := by decide +kernel
theorem dX6_row_120 : decode cX6_row 120 = .ok (.invokevirtual 188, 3) := by decide +kernel
theorem dX6_row_123 : decode cX6_row 123 = .ok (.ireturn, 1) := by decide +kernel
theorem dX6_row_124 : decode cX6_row 124 = .ok (.aload_n 3, 1) := by decide +kernel
theorem dX6_row_125 : decode cX6_row 125 = .ok (.iload_n 1, 1) := by decide +kernel
theorem dX6_row_126 : decode cX6_row 126 = .ok (.invokevirtual 191, 3) := by decide +kernel
theorem dX6_row_129 : decode cX6_row 129 = .ok (.ireturn, 1) := by decide +kernel
theorem dX6_row_130 : decode cX6_row 130 = .ok (.aload_n 3, 1) := by decide +kernel
theorem dX6_row_131 : decode cX6_row 131 = .ok (.iload_n 1, 1) := by decide +kernel
theorem dX6_row_132 : decode cX6_row 132 = .ok (.aload_n 0, 1) := by decide +kernel
theorem dX6_row_133 : decode cX6_row 133 = .ok (.getfield 12, 3) := by decide +kernel
theorem dX6_row_136 : decode cX6_row 136 = .ok (.getfield 79, 3) := by decide +kernel
theorem dX6_row_139 : decode cX6_row 139 = .ok (.invokevirtual 176, 3) := by decide +kernel
theorem dX6_row_142 : decode cX6_row 142 = .ok (.ireturn, 1) := by decide +kernel
theorem dX6_row_143 : decode cX6_row 143 = .ok (.aload_n 3, 1) := by decide +kernel
theorem dX6_row_144 : decode cX6_row 144 = .ok (.iload_n 1, 1) := by decide +kernel
theorem dX6_row_145 : decode cX6_row 145 = .ok (.aload_n 0, 1) := by decide +kernel
theorem dX6_row_146 : decode cX6_row 146 = .ok (.getfield 12, 3) := by decide +kernel
theorem dX6_row_149 : decode cX6_row 149 = .ok (.getfield 79, 3) := by decide +kernel
theorem dX6_row_152 : decode cX6_row 152 = .ok (.invokevirtual 194, 3) := by decide +kernel
theorem dX6_row_155 : decode cX6_row 155 = .ok (.ireturn, 1) := by decide +kernel
theorem dX6_row_156 : decode cX6_row 156 = .ok (.sipush (-1002), 3) := by decide +kernel
theorem dX6_row_159 : decode cX6_row 159 = .ok (.ireturn, 1) := by decide +kernel
theorem dX6_waiting_0 : decode cX6_waiting 0 = .ok (.iload_n 1, 1) := by decide +kernel
theorem dX6_waiting_1 : decode cX6_waiting 1 = .ok (.ifCond .ge 7, 3) := by decide +kernel
theorem dX6_waiting_4 : decode cX6_waiting 4 = .ok (.sipush (-1002), 3) := by decide +kernel
theorem dX6_waiting_7 : decode cX6_waiting 7 = .ok (.ireturn, 1) := by decide +kernel
theorem dX6_waiting_8 : decode cX6_waiting 8 = .ok (.iload_n 1, 1) := by decide +kernel
theorem dX6_waiting_9 : decode cX6_waiting 9 = .ok (.aload_n 0, 1) := by decide +kernel
theorem dX6_waiting_10 : decode cX6_waiting 10 = .ok (.getfield 12, 3) := by decide +kernel
theorem dX6_waiting_13 : decode cX6_waiting 13 = .ok (.getfield 95, 3) := by decide +kernel
theorem dX6_waiting_16 : decode cX6_waiting 16 = .ok (.invokevirtual 99, 3) := by decide +kernel
theorem dX6_waiting_19 : decode cX6_waiting 19 = .ok (.if_icmp .lt 7, 3) := by decide +kernel
theorem dX6_waiting_22 : decode cX6_waiting 22 = .ok (.sipush (-1005), 3) := by decide +kernel
theorem dX6_waiting_25 : decode cX6_waiting 25 = .ok (.ireturn, 1) := by decide +kernel
theorem dX6_waiting_26 : decode cX6_waiting 26 = .ok (.iload_n 2, 1) := by decide +kernel
theorem dX6_waiting_27 : decode cX6_waiting 27 = .ok (.ifCond .eq 17, 3) := by decide +kernel
theorem dX6_waiting_30 : decode cX6_waiting 30 = .ok (.aload_n 0, 1) := by decide +kernel
theorem dX6_waiting_31 : decode cX6_waiting 31 = .ok (.getfield 12, 3) := by decide +kernel
theorem dX6_waiting_34 : decode cX6_waiting 34 = .ok (.getfield 95, 3) := by decide +kernel
theorem dX6_waiting_37 : decode cX6_waiting 37 = .ok (.iload_n 1, 1) := by decide +kernel
theorem dX6_waiting_38 : decode cX6_waiting 38 = .ok (.invokevirtual 197, 3) := by decide +kernel
theorem dX6_waiting_41 : decode cX6_waiting 41 = .ok (.goto 14, 3) := by decide +kernel
theorem dX6_waiting_44 : decode cX6_waiting 44 = .ok (.aload_n 0, 1) := by decide +kernel
theorem dX6_waiting_45 : decode cX6_waiting 45 = .ok (.getfield 12, 3) := by decide +kernel
theorem dX6_waiting_48 : decode cX6_waiting 48 = .ok (.getfield 95, 3) := by decide +kernel
theorem dX6_waiting_51 : decode cX6_waiting 51 = .ok (.iload_n 1, 1) := by decide +kernel
theorem dX6_waiting_52 : decode cX6_waiting 52 = .ok (.invokevirtual 200, 3) := by decide +kernel
theorem dX6_waiting_55 : decode cX6_waiting 55 = .ok (.ireturn, 1) := by decide +kernel
theorem dX6_ended_0 : decode cX6_ended 0 = .ok (.iload_n 1, 1) := by decide +kernel
theorem dX6_ended_1 : decode cX6_ended 1 = .ok (.ifCond .lt 13, 3) := by decide +kernel
theorem dX6_ended_4 : decode cX6_ended 4 = .ok (.iload_n 2, 1) := by decide +kernel
theorem dX6_ended_5 : decode cX6_ended 5 = .ok (.ifCond .lt 9, 3) := by decide +kernel
theorem dX6_ended_8 : decode cX6_ended 8 = .ok (.iload_n 2, 1) := by decide +kernel
theorem dX6_ended_9 : decode cX6_ended 9 = .ok (.bipush 7, 2) := by decide +kernel
theorem dX6_ended_11 : decode cX6_ended 11 = .ok (.if_icmp .lt 7, 3) := by decide +kernel
theorem dX6_ended_14 : decode cX6_ended 14 = .ok (.sipush (-1002), 3) := by decide +kernel
theorem dX6_ended_17 : decode cX6_ended 17 = .ok (.ireturn, 1) := by decide +kernel
theorem dX6_ended_18 : decode cX6_ended 18 = .ok (.iload_n 1, 1) := by decide +kernel
theorem dX6_ended_19 : decode cX6_ended 19 = .ok (.aload_n 0, 1) := by decide +kernel
theorem dX6_ended_20 : decode cX6_ended 20 = .ok (.getfield 12, 3) := by decide +kernel
theorem dX6_ended_23 : decode cX6_ended 23 = .ok (.getfield 203, 3) := by decide +kernel
theorem dX6_ended_26 : decode cX6_ended 26 = .ok (.if_icmp .lt 7, 3) := by decide +kernel
theorem dX6_ended_29 : decode cX6_ended 29 = .ok (.sipush (-1005), 3) := by decide +kernel
theorem dX6_ended_32 : decode cX6_ended 32 = .ok (.ireturn, 1) := by decide +kernel
theorem dX6_ended_33 : decode cX6_ended 33 = .ok (.aload_n 0, 1) := by decide +kernel
theorem dX6_ended_34 : decode cX6_ended 34 = .ok (.getfield 12, 3) := by decide +kernel
theorem dX6_ended_37 : decode cX6_ended 37 = .ok (.getfield 206, 3) := by decide +kernel
theorem dX6_ended_40 : decode cX6_ended 40 = .ok (.iload_n 1, 1) := by decide +kernel
theorem dX6_ended_41 : decode cX6_ended 41 = .ok (.bipush 7, 2) := by decide +kernel
theorem dX6_ended_43 : decode cX6_ended 43 = .ok (.imul, 1) := by decide +kernel
theorem dX6_ended_44 : decode cX6_ended 44 = .ok (.iload_n 2, 1) := by decide +kernel
theorem dX6_ended_45 : decode cX6_ended 45 = .ok (.iadd, 1) := by decide +kernel
theorem dX6_ended_46 : decode cX6_ended 46 = .ok (.iaload, 1) := by decide +kernel
theorem dX6_ended_47 : decode cX6_ended 47 = .ok (.ireturn, 1) := by decide +kernel
theorem dX6_would_0 : decode cX6_would 0 = .ok (.iload_n 1, 1) := by decide +kernel
theorem dX6_would_1 : decode cX6_would 1 = .ok (.invokestatic 54, 3) := by decide +kernel
theorem dX6_would_4 : decode cX6_would 4 = .ok (.ifCond .ne 7, 3) := by decide +kernel
theorem dX6_would_7 : decode cX6_would 7 = .ok (.sipush (-1001), 3) := by decide +kernel
theorem dX6_would_10 : decode cX6_would 10 = .ok (.ireturn, 1) := by decide +kernel
theorem dX6_would_11 : decode cX6_would 11 = .ok (.iload_n 2, 1) := by decide +kernel
theorem dX6_would_12 : decode cX6_would 12 = .ok (.invokestatic 92, 3) := by decide +kernel
theorem dX6_would_15 : decode cX6_would 15 = .ok (.ifCond .eq 14, 3) := by decide +kernel
theorem dX6_would_18 : decode cX6_would 18 = .ok (.iload_n 3, 1) := by decide +kernel
theorem dX6_would_19 : decode cX6_would 19 = .ok (.iconst 2, 1) := by decide +kernel
theorem dX6_would_20 : decode cX6_would 20 = .ok (.if_icmp .lt 9, 3) := by decide +kernel
theorem dX6_would_23 : decode cX6_would 23 = .ok (.iload_n 3, 1) := by decide +kernel
theorem dX6_would_24 : decode cX6_would 24 = .ok (.bipush 7, 2) := by decide +kernel
theorem dX6_would_26 : decode cX6_would 26 = .ok (.if_icmp .lt 7, 3) := by decide +kernel
theorem dX6_would_29 : decode cX6_would 29 = .ok (.sipush (-1002), 3) := by decide +kernel
theorem dX6_would_32 : decode cX6_would 32 = .ok (.ireturn, 1) := by decide +kernel
theorem dX6_would_33 : decode cX6_would 33 = .ok (.aload_n 0, 1) := by decide +kernel
theorem dX6_would_34 : decode cX6_would 34 = .ok (.getfield 46, 3) := by decide +kernel
theorem dX6_would_37 : decode cX6_would 37 = .ok (.aload_n 0, 1) := by decide +kernel
theorem dX6_would_38 : decode cX6_would 38 = .ok (.getfield 12, 3) := by decide +kernel
theorem dX6_would_41 : decode cX6_would 41 = .ok (.getfield 61, 3) := by decide +kernel
theorem dX6_would_44 : decode cX6_would 44 = .ok (.invokevirtual 209, 3) := by decide +kernel
theorem dX6_would_47 : decode cX6_would 47 = .ok (.aload_n 0, 1) := by decide +kernel
theorem dX6_would_48 : decode cX6_would 48 = .ok (.getfield 39, 3) := by decide +kernel
theorem dX6_would_51 : decode cX6_would 51 = .ok (.aload_n 0, 1) := by decide +kernel
theorem dX6_would_52 : decode cX6_would 52 = .ok (.getfield 46, 3) := by decide +kernel
theorem dX6_would_55 : decode cX6_would 55 = .ok (.iload_n 1, 1) := by decide +kernel
theorem dX6_would_56 : decode cX6_would 56 = .ok (.iload_n 2, 1) := by decide +kernel
theorem dX6_would_57 : decode cX6_would 57 = .ok (.aload_n 0, 1) := by decide +kernel
theorem dX6_would_58 : decode cX6_would 58 = .ok (.getfield 12, 3) := by decide +kernel
theorem dX6_would_61 : decode cX6_would 61 = .ok (.getfield 79, 3) := by decide +kernel
theorem dX6_would_64 : decode cX6_would 64 = .ok (.aload_n 0, 1) := by decide +kernel
theorem dX6_would_65 : decode cX6_would 65 = .ok (.iload_n 2, 1) := by decide +kernel
theorem dX6_would_66 : decode cX6_would 66 = .ok (.invokevirtual 212, 3) := by decide +kernel
theorem dX6_would_69 : decode cX6_would 69 = .ok (.invokevirtual 215, 3) := by decide +kernel
theorem dX6_would_72 : decode cX6_would 72 = .ok (.aload_n 0, 1) := by decide +kernel
theorem dX6_would_73 : decode cX6_would 73 = .ok (.getfield 39, 3) := by decide +kernel
theorem dX6_would_76 : decode cX6_would 76 = .ok (.iload_n 3, 1) := by decide +kernel
theorem dX6_would_77 : decode cX6_would 77 = .ok (.invokevirtual 219, 3) := by decide +kernel
theorem dX6_would_80 : decode cX6_would 80 = .ok (.ireturn, 1) := by decide +kernel
theorem dX6_sand_0 : decode cX6_sand 0 = .ok (.iload_n 1, 1) := by decide +kernel
theorem dX6_sand_1 : decode cX6_sand 1 = .ok (.invokestatic 58, 3) := by decide +kernel
theorem dX6_sand_4 : decode cX6_sand 4 = .ok (.ifCond .eq 10, 3) := by decide +kernel
theorem dX6_sand_7 : decode cX6_sand 7 = .ok (.iload_n 2, 1) := by decide +kernel
theorem dX6_sand_8 : decode cX6_sand 8 = .ok (.invokestatic 58, 3) := by decide +kernel
theorem dX6_sand_11 : decode cX6_sand 11 = .ok (.ifCond .ne 7, 3) := by decide +kernel
theorem dX6_sand_14 : decode cX6_sand 14 = .ok (.sipush (-1001), 3) := by decide +kernel
theorem dX6_sand_17 : decode cX6_sand 17 = .ok (.ireturn, 1) := by decide +kernel
theorem dX6_sand_18 : decode cX6_sand 18 = .ok (.iload_n 2, 1) := by decide +kernel
theorem dX6_sand_19 : decode cX6_sand 19 = .ok (.iload_n 1, 1) := by decide +kernel
theorem dX6_sand_20 : decode cX6_sand 20 = .ok (.if_icmp .ge 7, 3) := by decide +kernel
theorem dX6_sand_23 : decode cX6_sand 23 = .ok (.sipush (-1002), 3) := by decide +kernel
theorem dX6_sand_26 : decode cX6_sand 26 = .ok (.ireturn, 1) := by decide +kernel
theorem dX6_sand_27 : decode cX6_sand 27 = .ok (.aload_n 0, 1) := by decide +kernel
theorem dX6_sand_28 : decode cX6_sand 28 = .ok (.getfield 12, 3) := by decide +kernel
theorem dX6_sand_31 : decode cX6_sand 31 = .ok (.getfield 61, 3) := by decide +kernel
theorem dX6_sand_34 : decode cX6_sand 34 = .ok (.iload_n 1, 1) := by decide +kernel
theorem dX6_sand_35 : decode cX6_sand 35 = .ok (.iload_n 2, 1) := by decide +kernel
theorem dX6_sand_36 : decode cX6_sand 36 = .ok (.invokevirtual 222, 3) := by decide +kernel
theorem dX6_sand_39 : decode cX6_sand 39 = .ok (.ireturn, 1) := by decide +kernel
theorem dX6_count_0 : decode cX6_count 0 = .ok (.iload_n 1, 1) := by decide +kernel
theorem dX6_count_1 : decode cX6_count 1 = .ok (.iconst 1, 1) := by decide +kernel
theorem dX6_count_2 : decode cX6_count 2 = .ok (.if_icmp .lt 19, 3) := by decide +kernel
theorem dX6_count_5 : decode cX6_count 5 = .ok (.iload_n 1, 1) := by decide +kernel
theorem dX6_count_6 : decode cX6_count 6 = .ok (.bipush 9, 2) := by decide +kernel
theorem dX6_count_8 : decode cX6_count 8 = .ok (.if_icmp .ge 13, 3) := by decide +kernel
theorem dX6_count_11 : decode cX6_count 11 = .ok (.aload_n 0, 1) := by decide +kernel
theorem dX6_count_12 : decode cX6_count 12 = .ok (.getfield 12, 3) := by decide +kernel
theorem dX6_count_15 : decode cX6_count 15 = .ok (.getfield 76, 3) := by decide +kernel
theorem dX6_count_18 : decode cX6_count 18 = .ok (.iload_n 1, 1) := by decide +kernel
theorem dX6_count_19 : decode cX6_count 19 = .ok (.iaload, 1) := by decide +kernel
theorem dX6_count_20 : decode cX6_count 20 = .ok (.ireturn, 1) := by decide +kernel
theorem dX6_count_21 : decode cX6_count 21 = .ok (.aload_n 0, 1) := by decide +kernel
theorem dX6_count_22 : decode cX6_count 22 = .ok (.getfield 12, 3) := by decide +kernel
theorem dX6_count_25 : decode cX6_count 25 = .ok (.getfield 61, 3) := by decide +kernel
theorem dX6_count_28 : decode cX6_count 28 = .ok (.astore_n 2, 1) := by decide +kernel
theorem dX6_count_29 : decode cX6_count 29 = .ok (.iload_n 1, 1) := by decide +kernel
theorem dX6_count_30 : decode cX6_count 30 = .ok (.tableswitch 219 0 19 #[94, 219, 219, 219, 219, 219, 219, 219, 219, 99, 110, 118, 128, 138, 148, 158, 170, 191, 203, 211], 94) := by decide +kernel
theorem dX6_count_124 : decode cX6_count 124 = .ok (.aload_n 2, 1) := by decide +kernel
theorem dX6_count_125 : decode cX6_count 125 = .ok (.invokevirtual 159, 3) := by decide +kernel
theorem dX6_count_128 : decode cX6_count 128 = .ok (.ireturn, 1) := by decide +kernel
theorem dX6_count_129 : decode cX6_count 129 = .ok (.aload_n 0, 1) := by decide +kernel
theorem dX6_count_130 : decode cX6_count 130 = .ok (.getfield 12, 3) := by decide +kernel
theorem dX6_count_133 : decode cX6_count 133 = .ok (.getfield 95, 3) := by decide +kernel
theorem dX6_count_136 : decode cX6_count 136 = .ok (.invokevirtual 99, 3) := by decide +kernel
theorem dX6_count_139 : decode cX6_count 139 = .ok (.ireturn, 1) := by decide +kernel
theorem dX6_count_140 : decode cX6_count 140 = .ok (.aload_n 0, 1) := by decide +kernel
theorem dX6_count_141 : decode cX6_count 141 = .ok (.getfield 12, 3) := by decide +kernel
theorem dX6_count_144 : decode cX6_count 144 = .ok (.getfield 79, 3) := by decide +kernel
theorem dX6_count_147 : decode cX6_count 147 = .ok (.ireturn, 1) := by decide +kernel
theorem dX6_count_148 : decode cX6_count 148 = .ok (.aload_n 0, 1) := by decide +kernel
theorem dX6_count_149 : decode cX6_count 149 = .ok (.getfield 12, 3) := by decide +kernel
theorem dX6_count_152 : decode cX6_count 152 = .ok (.getfield 89, 3) := by decide +kernel
theorem dX6_count_155 : decode cX6_count 155 = .ok (.iconst 0, 1) := by decide +kernel
theorem dX6_count_156 : decode cX6_count 156 = .ok (.iaload, 1) := by decide +kernel
theorem dX6_count_157 : decode cX6_count 157 = .ok (.ireturn, 1) := by decide +kernel
theorem dX6_count_158 : decode cX6_count 158 = .ok (.aload_n 0, 1) := by decide +kernel
theorem dX6_count_159 : decode cX6_count 159 = .ok (.getfield 12, 3) := by decide +kernel
theorem dX6_count_162 : decode cX6_count 162 = .ok (.getfield 89, 3) := by decide +kernel
theorem dX6_count_165 : decode cX6_count 165 = .ok (.iconst 1, 1) := by decide +kernel
theorem dX6_count_166 : decode cX6_count 166 = .ok (.iaload, 1) := by decide +kernel
theorem dX6_count_167 : decode cX6_count 167 = .ok (.ireturn, 1) := by decide +kernel
theorem dX6_count_168 : decode cX6_count 168 = .ok (.aload_n 0, 1) := by decide +kernel
theorem dX6_count_169 : decode cX6_count 169 = .ok (.getfield 12, 3) := by decide +kernel
theorem dX6_count_172 : decode cX6_count 172 = .ok (.getfield 89, 3) := by decide +kernel
theorem dX6_count_175 : decode cX6_count 175 = .ok (.iconst 2, 1) := by decide +kernel
theorem dX6_count_176 : decode cX6_count 176 = .ok (.iaload, 1) := by decide +kernel
theorem dX6_count_177 : decode cX6_count 177 = .ok (.ireturn, 1) := by decide +kernel
theorem dX6_count_178 : decode cX6_count 178 = .ok (.aload_n 0, 1) := by decide +kernel
theorem dX6_count_179 : decode cX6_count 179 = .ok (.getfield 12, 3) := by decide +kernel
theorem dX6_count_182 : decode cX6_count 182 = .ok (.getfield 89, 3) := by decide +kernel
theorem dX6_count_185 : decode cX6_count 185 = .ok (.iconst 3, 1) := by decide +kernel
theorem dX6_count_186 : decode cX6_count 186 = .ok (.iaload, 1) := by decide +kernel
theorem dX6_count_187 : decode cX6_count 187 = .ok (.ireturn, 1) := by decide +kernel
theorem dX6_count_188 : decode cX6_count 188 = .ok (.aload_n 2, 1) := by decide +kernel
theorem dX6_count_189 : decode cX6_count 189 = .ok (.aload_n 0, 1) := by decide +kernel
theorem dX6_count_190 : decode cX6_count 190 = .ok (.getfield 12, 3) := by decide +kernel
theorem dX6_count_193 : decode cX6_count 193 = .ok (.getfield 79, 3) := by decide +kernel
theorem dX6_count_196 : decode cX6_count 196 = .ok (.invokevirtual 225, 3) := by decide +kernel
theorem dX6_count_199 : decode cX6_count 199 = .ok (.ireturn, 1) := by decide +kernel
theorem dX6_count_200 : decode cX6_count 200 = .ok (.aload_n 2, 1) := by decide +kernel
theorem dX6_count_201 : decode cX6_count 201 = .ok (.aload_n 0, 1) := by decide +kernel
theorem dX6_count_202 : decode cX6_count 202 = .ok (.getfield 12, 3) := by decide +kernel
theorem dX6_count_205 : decode cX6_count 205 = .ok (.getfield 79, 3) := by decide +kernel
theorem dX6_count_208 : decode cX6_count 208 = .ok (.aload_n 0, 1) := by decide +kernel
theorem dX6_count_209 : decode cX6_count 209 = .ok (.getfield 12, 3) := by decide +kernel
theorem dX6_count_212 : decode cX6_count 212 = .ok (.getfield 89, 3) := by decide +kernel
theorem dX6_count_215 : decode cX6_count 215 = .ok (.iconst 2, 1) := by decide +kernel
theorem dX6_count_216 : decode cX6_count 216 = .ok (.iaload, 1) := by decide +kernel
theorem dX6_count_217 : decode cX6_count 217 = .ok (.invokevirtual 228, 3) := by decide +kernel
theorem dX6_count_220 : decode cX6_count 220 = .ok (.ireturn, 1) := by decide +kernel
theorem dX6_count_221 : decode cX6_count 221 = .ok (.aload_n 2, 1) := by decide +kernel
theorem dX6_count_222 : decode cX6_count 222 = .ok (.aload_n 0, 1) := by decide +kernel
theorem dX6_count_223 : decode cX6_count 223 = .ok (.getfield 12, 3) := by decide +kernel
theorem dX6_count_226 : decode cX6_count 226 = .ok (.getfield 79, 3) := by decide +kernel
theorem dX6_count_229 : decode cX6_count 229 = .ok (.invokevirtual 231, 3) := by decide +kernel
theorem dX6_count_232 : decode cX6_count 232 = .ok (.ireturn, 1) := by decide +kernel
theorem dX6_count_233 : decode cX6_count 233 = .ok (.aload_n 0, 1) := by decide +kernel
theorem dX6_count_234 : decode cX6_count 234 = .ok (.getfield 25, 3) := by decide +kernel
theorem dX6_count_237 : decode cX6_count 237 = .ok (.invokevirtual 151, 3) := by decide +kernel
theorem dX6_count_240 : decode cX6_count 240 = .ok (.ireturn, 1) := by decide +kernel
theorem dX6_count_241 : decode cX6_count 241 = .ok (.aload_n 0, 1) := by decide +kernel
theorem dX6_count_242 : decode cX6_count 242 = .ok (.getfield 32, 3) := by decide +kernel
theorem dX6_count_245 : decode cX6_count 245 = .ok (.invokevirtual 142, 3) := by decide +kernel
theorem dX6_count_248 : decode cX6_count 248 = .ok (.ireturn, 1) := by decide +kernel
theorem dX6_count_249 : decode cX6_count 249 = .ok (.sipush (-1002), 3) := by decide +kernel
theorem dX6_count_252 : decode cX6_count 252 = .ok (.ireturn, 1) := by decide +kernel
theorem dX6_isRow_0 : decode cX6_isRow 0 = .ok (.iload_n 0, 1) := by decide +kernel
theorem dX6_isRow_1 : decode cX6_isRow 1 = .ok (.ifCond .lt 12, 3) := by decide +kernel
theorem dX6_isRow_4 : decode cX6_isRow 4 = .ok (.iload_n 0, 1) := by decide +kernel
theorem dX6_isRow_5 : decode cX6_isRow 5 = .ok (.iconst 4, 1) := by decide +kernel
theorem dX6_isRow_6 : decode cX6_isRow 6 = .ok (.if_icmp .ge 7, 3) := by decide +kernel
theorem dX6_isRow_9 : decode cX6_isRow 9 = .ok (.iconst 1, 1) := by decide +kernel
theorem dX6_isRow_10 : decode cX6_isRow 10 = .ok (.goto 4, 3) := by decide +kernel
theorem dX6_isRow_13 : decode cX6_isRow 13 = .ok (.iconst 0, 1) := by decide +kernel
theorem dX6_isRow_14 : decode cX6_isRow 14 = .ok (.ireturn, 1) := by decide +kernel
theorem dX6_isCell_0 : decode cX6_isCell 0 = .ok (.iload_n 0, 1) := by decide +kernel
theorem dX6_isCell_1 : decode cX6_isCell 1 = .ok (.ifCond .lt 13, 3) := by decide +kernel
theorem dX6_isCell_4 : decode cX6_isCell 4 = .ok (.iload_n 0, 1) := by decide +kernel
theorem dX6_isCell_5 : decode cX6_isCell 5 = .ok (.bipush 20, 2) := by decide +kernel
theorem dX6_isCell_7 : decode cX6_isCell 7 = .ok (.if_icmp .ge 7, 3) := by decide +kernel
theorem dX6_isCell_10 : decode cX6_isCell 10 = .ok (.iconst 1, 1) := by decide +kernel
theorem dX6_isCell_11 : decode cX6_isCell 11 = .ok (.goto 4, 3) := by decide +kernel
theorem dX6_isCell_14 : decode cX6_isCell 14 = .ok (.iconst 0, 1) := by decide +kernel
theorem dX6_isCell_15 : decode cX6_isCell 15 = .ok (.ireturn, 1) := by decide +kernel
theorem dX6_isWaveHeight_0 : decode cX6_isWaveHeight 0 = .ok (.iload_n 0, 1) := by decide +kernel
theorem dX6_isWaveHeight_1 : decode cX6_isWaveHeight 1 = .ok (.iconst 1, 1) := by decide +kernel
theorem dX6_isWaveHeight_2 : decode cX6_isWaveHeight 2 = .ok (.if_icmp .lt 13, 3) := by decide +kernel
theorem dX6_isWaveHeight_5 : decode cX6_isWaveHeight 5 = .ok (.iload_n 0, 1) := by decide +kernel
theorem dX6_isWaveHeight_6 : decode cX6_isWaveHeight 6 = .ok (.bipush 20, 2) := by decide +kernel
theorem dX6_isWaveHeight_8 : decode cX6_isWaveHeight 8 = .ok (.if_icmp .gt 7, 3) := by decide +kernel
theorem dX6_isWaveHeight_11 : decode cX6_isWaveHeight 11 = .ok (.iconst 1, 1) := by decide +kernel
theorem dX6_isWaveHeight_12 : decode cX6_isWaveHeight 12 = .ok (.goto 4, 3) := by decide +kernel
theorem dX6_isWaveHeight_15 : decode cX6_isWaveHeight 15 = .ok (.iconst 0, 1) := by decide +kernel
theorem dX6_isWaveHeight_16 : decode cX6_isWaveHeight 16 = .ok (.ireturn, 1) := by decide +kernel
theorem dX6_firstHeight_0 : decode cX6_firstHeight 0 = .ok (.bipush 60, 2) := by decide +kernel
theorem dX6_firstHeight_2 : decode cX6_firstHeight 2 = .ok (.iconst 3, 1) := by decide +kernel
theorem dX6_firstHeight_3 : decode cX6_firstHeight 3 = .ok (.iload_n 0, 1) := by decide +kernel
theorem dX6_firstHeight_4 : decode cX6_firstHeight 4 = .ok (.imul, 1) := by decide +kernel
theorem dX6_firstHeight_5 : decode cX6_firstHeight 5 = .ok (.isub, 1) := by decide +kernel
theorem dX6_firstHeight_6 : decode cX6_firstHeight 6 = .ok (.ireturn, 1) := by decide +kernel
theorem dX6_goesSeaward_0 : decode cX6_goesSeaward 0 = .ok (.iload_n 1, 1) := by decide +kernel
theorem dX6_goesSeaward_1 : decode cX6_goesSeaward 1 = .ok (.aload_n 0, 1) := by decide +kernel
theorem dX6_goesSeaward_2 : decode cX6_goesSeaward 2 = .ok (.getfield 12, 3) := by decide +kernel
theorem dX6_goesSeaward_5 : decode cX6_goesSeaward 5 = .ok (.getfield 89, 3) := by decide +kernel
theorem dX6_goesSeaward_8 : decode cX6_goesSeaward 8 = .ok (.iconst 0, 1) := by decide +kernel
theorem dX6_goesSeaward_9 : decode cX6_goesSeaward 9 = .ok (.iaload, 1) := by decide +kernel
theorem dX6_goesSeaward_10 : decode cX6_goesSeaward 10 = .ok (.if_icmp .lt 7, 3) := by decide +kernel
theorem dX6_goesSeaward_13 : decode cX6_goesSeaward 13 = .ok (.iconst 1, 1) := by decide +kernel
theorem dX6_goesSeaward_14 : decode cX6_goesSeaward 14 = .ok (.goto 4, 3) := by decide +kernel
theorem dX6_goesSeaward_17 : decode cX6_goesSeaward 17 = .ok (.iconst 0, 1) := by decide +kernel
theorem dX6_goesSeaward_18 : decode cX6_goesSeaward 18 = .ok (.ireturn, 1) := by decide +kernel
theorem dX6_runWaves_0 : decode cX6_runWaves 0 = .ok (.aload_n 0, 1) := by decide +kernel
theorem dX6_runWaves_1 : decode cX6_runWaves 1 = .ok (.invokevirtual 234, 3) := by decide +kernel
theorem dX6_runWaves_4 : decode cX6_runWaves 4 = .ok (.iconst 0, 1) := by decide +kernel
theorem dX6_runWaves_5 : decode cX6_runWaves 5 = .ok (.istore_n 2, 1) := by decide +kernel
theorem dX6_runWaves_6 : decode cX6_runWaves 6 = .ok (.aload_n 0, 1) := by decide +kernel
theorem dX6_runWaves_7 : decode cX6_runWaves 7 = .ok (.getfield 12, 3) := by decide +kernel
theorem dX6_runWaves_10 : decode cX6_runWaves 10 = .ok (.getfield 95, 3) := by decide +kernel
theorem dX6_runWaves_13 : decode cX6_runWaves 13 = .ok (.invokevirtual 99, 3) := by decide +kernel
theorem dX6_runWaves_16 : decode cX6_runWaves 16 = .ok (.istore_n 3, 1) := by decide +kernel
theorem dX6_runWaves_17 : decode cX6_runWaves 17 = .ok (.iconst 0, 1) := by decide +kernel
theorem dX6_runWaves_18 : decode cX6_runWaves 18 = .ok (.istore 4, 2) := by decide +kernel
theorem dX6_runWaves_20 : decode cX6_runWaves 20 = .ok (.iload 4, 2) := by decide +kernel
theorem dX6_runWaves_22 : decode cX6_runWaves 22 = .ok (.iload_n 3, 1) := by decide +kernel
theorem dX6_runWaves_23 : decode cX6_runWaves 23 = .ok (.if_icmp .ge 91, 3) := by decide +kernel
theorem dX6_runWaves_26 : decode cX6_runWaves 26 = .ok (.aload_n 0, 1) := by decide +kernel
theorem dX6_runWaves_27 : decode cX6_runWaves 27 = .ok (.getfield 50, 3) := by decide +kernel
theorem dX6_runWaves_30 : decode cX6_runWaves 30 = .ok (.iload 4, 2) := by decide +kernel
theorem dX6_runWaves_32 : decode cX6_runWaves 32 = .ok (.iaload, 1) := by decide +kernel
theorem dX6_runWaves_33 : decode cX6_runWaves 33 = .ok (.istore 5, 2) := by decide +kernel
theorem dX6_runWaves_35 : decode cX6_runWaves 35 = .ok (.aload_n 0, 1) := by decide +kernel
theorem dX6_runWaves_36 : decode cX6_runWaves 36 = .ok (.getfield 12, 3) := by decide +kernel
theorem dX6_runWaves_39 : decode cX6_runWaves 39 = .ok (.getfield 95, 3) := by decide +kernel
theorem dX6_runWaves_42 : decode cX6_runWaves 42 = .ok (.iload 5, 2) := by decide +kernel
theorem dX6_runWaves_44 : decode cX6_runWaves 44 = .ok (.invokevirtual 197, 3) := by decide +kernel
theorem dX6_runWaves_47 : decode cX6_runWaves 47 = .ok (.istore 6, 2) := by decide +kernel
theorem dX6_runWaves_49 : decode cX6_runWaves 49 = .ok (.aload_n 0, 1) := by decide +kernel
theorem dX6_runWaves_50 : decode cX6_runWaves 50 = .ok (.getfield 39, 3) := by decide +kernel
theorem dX6_runWaves_53 : decode cX6_runWaves 53 = .ok (.aload_n 0, 1) := by decide +kernel
theorem dX6_runWaves_54 : decode cX6_runWaves 54 = .ok (.getfield 12, 3) := by decide +kernel
theorem dX6_runWaves_57 : decode cX6_runWaves 57 = .ok (.getfield 61, 3) := by decide +kernel
theorem dX6_runWaves_60 : decode cX6_runWaves 60 = .ok (.aload_n 0, 1) := by decide +kernel
theorem dX6_runWaves_61 : decode cX6_runWaves 61 = .ok (.getfield 12, 3) := by decide +kernel
theorem dX6_runWaves_64 : decode cX6_runWaves 64 = .ok (.getfield 95, 3) := by decide +kernel
theorem dX6_runWaves_67 : decode cX6_runWaves 67 = .ok (.iload 5, 2) := by decide +kernel
theorem dX6_runWaves_69 : decode cX6_runWaves 69 = .ok (.invokevirtual 200, 3) := by decide +kernel
theorem dX6_runWaves_72 : decode cX6_runWaves 72 = .ok (.iload 6, 2) := by decide +kernel
theorem dX6_runWaves_74 : decode cX6_runWaves 74 = .ok (.iload_n 1, 1) := by decide +kernel
theorem dX6_runWaves_75 : decode cX6_runWaves 75 = .ok (.aload_n 0, 1) := by decide +kernel
theorem dX6_runWaves_76 : decode cX6_runWaves 76 = .ok (.iload 6, 2) := by decide +kernel
theorem dX6_runWaves_78 : decode cX6_runWaves 78 = .ok (.invokevirtual 212, 3) := by decide +kernel
theorem dX6_runWaves_81 : decode cX6_runWaves 81 = .ok (.invokevirtual 215, 3) := by decide +kernel
theorem dX6_runWaves_84 : decode cX6_runWaves 84 = .ok (.aload_n 0, 1) := by decide +kernel
theorem dX6_runWaves_85 : decode cX6_runWaves 85 = .ok (.getfield 12, 3) := by decide +kernel
theorem dX6_runWaves_88 : decode cX6_runWaves 88 = .ok (.aload_n 0, 1) := by decide +kernel
theorem dX6_runWaves_89 : decode cX6_runWaves 89 = .ok (.getfield 39, 3) := by decide +kernel
theorem dX6_runWaves_92 : decode cX6_runWaves 92 = .ok (.iload 4, 2) := by decide +kernel
theorem dX6_runWaves_94 : decode cX6_runWaves 94 = .ok (.invokevirtual 237, 3) := by decide +kernel
theorem dX6_runWaves_97 : decode cX6_runWaves 97 = .ok (.iload_n 2, 1) := by decide +kernel
theorem dX6_runWaves_98 : decode cX6_runWaves 98 = .ok (.aload_n 0, 1) := by decide +kernel
theorem dX6_runWaves_99 : decode cX6_runWaves 99 = .ok (.getfield 39, 3) := by decide +kernel
theorem dX6_runWaves_102 : decode cX6_runWaves 102 = .ok (.iconst 5, 1) := by decide +kernel
theorem dX6_runWaves_103 : decode cX6_runWaves 103 = .ok (.invokevirtual 219, 3) := by decide +kernel
theorem dX6_runWaves_106 : decode cX6_runWaves 106 = .ok (.iadd, 1) := by decide +kernel
theorem dX6_runWaves_107 : decode cX6_runWaves 107 = .ok (.istore_n 2, 1) := by decide +kernel
theorem dX6_runWaves_108 : decode cX6_runWaves 108 = .ok (.iinc 4 1, 3) := by decide +kernel
theorem dX6_runWaves_111 : decode cX6_runWaves 111 = .ok (.goto (-91), 3) := by decide +kernel
theorem dX6_runWaves_114 : decode cX6_runWaves 114 = .ok (.aload_n 0, 1) := by decide +kernel
theorem dX6_runWaves_115 : decode cX6_runWaves 115 = .ok (.getfield 12, 3) := by decide +kernel
theorem dX6_runWaves_118 : decode cX6_runWaves 118 = .ok (.iload_n 3, 1) := by decide +kernel
theorem dX6_runWaves_119 : decode cX6_runWaves 119 = .ok (.putfield 203, 3) := by decide +kernel
theorem dX6_runWaves_122 : decode cX6_runWaves 122 = .ok (.iload_n 2, 1) := by decide +kernel
theorem dX6_runWaves_123 : decode cX6_runWaves 123 = .ok (.ireturn, 1) := by decide +kernel
theorem dX6_sortWaves_0 : decode cX6_sortWaves 0 = .ok (.aload_n 0, 1) := by decide +kernel
theorem dX6_sortWaves_1 : decode cX6_sortWaves 1 = .ok (.getfield 12, 3) := by decide +kernel
theorem dX6_sortWaves_4 : decode cX6_sortWaves 4 = .ok (.getfield 95, 3) := by decide +kernel
theorem dX6_sortWaves_7 : decode cX6_sortWaves 7 = .ok (.invokevirtual 99, 3) := by decide +kernel
theorem dX6_sortWaves_10 : decode cX6_sortWaves 10 = .ok (.istore_n 1, 1) := by decide +kernel
theorem dX6_sortWaves_11 : decode cX6_sortWaves 11 = .ok (.iconst 0, 1) := by decide +kernel
theorem dX6_sortWaves_12 : decode cX6_sortWaves 12 = .ok (.istore_n 2, 1) := by decide +kernel
theorem dX6_sortWaves_13 : decode cX6_sortWaves 13 = .ok (.iload_n 2, 1) := by decide +kernel
theorem dX6_sortWaves_14 : decode cX6_sortWaves 14 = .ok (.iload_n 1, 1) := by decide +kernel
theorem dX6_sortWaves_15 : decode cX6_sortWaves 15 = .ok (.if_icmp .ge 58, 3) := by decide +kernel
theorem dX6_sortWaves_18 : decode cX6_sortWaves 18 = .ok (.iload_n 2, 1) := by decide +kernel
theorem dX6_sortWaves_19 : decode cX6_sortWaves 19 = .ok (.istore_n 3, 1) := by decide +kernel
theorem dX6_sortWaves_20 : decode cX6_sortWaves 20 = .ok (.iload_n 3, 1) := by decide +kernel
theorem dX6_sortWaves_21 : decode cX6_sortWaves 21 = .ok (.ifCond .le 39, 3) := by decide +kernel
theorem dX6_sortWaves_24 : decode cX6_sortWaves 24 = .ok (.aload_n 0, 1) := by decide +kernel
theorem dX6_sortWaves_25 : decode cX6_sortWaves 25 = .ok (.iload_n 2, 1) := by decide +kernel
theorem dX6_sortWaves_26 : decode cX6_sortWaves 26 = .ok (.aload_n 0, 1) := by decide +kernel
theorem dX6_sortWaves_27 : decode cX6_sortWaves 27 = .ok (.getfield 50, 3) := by decide +kernel
theorem dX6_sortWaves_30 : decode cX6_sortWaves 30 = .ok (.iload_n 3, 1) := by decide +kernel
theorem dX6_sortWaves_31 : decode cX6_sortWaves 31 = .ok (.iconst 1, 1) := by decide +kernel
theorem dX6_sortWaves_32 : decode cX6_sortWaves 32 = .ok (.isub, 1) := by decide +kernel
theorem dX6_sortWaves_33 : decode cX6_sortWaves 33 = .ok (.iaload, 1) := by decide +kernel
theorem dX6_sortWaves_34 : decode cX6_sortWaves 34 = .ok (.invokevirtual 241, 3) := by decide +kernel
theorem dX6_sortWaves_37 : decode cX6_sortWaves 37 = .ok (.ifCond .eq 23, 3) := by decide +kernel
theorem dX6_sortWaves_40 : decode cX6_sortWaves 40 = .ok (.aload_n 0, 1) := by decide +kernel
theorem dX6_sortWaves_41 : decode cX6_sortWaves 41 = .ok (.getfield 50, 3) := by decide +kernel
theorem dX6_sortWaves_44 : decode cX6_sortWaves 44 = .ok (.iload_n 3, 1) := by decide +kernel
theorem dX6_sortWaves_45 : decode cX6_sortWaves 45 = .ok (.aload_n 0, 1) := by decide +kernel
theorem dX6_sortWaves_46 : decode cX6_sortWaves 46 = .ok (.getfield 50, 3) := by decide +kernel
theorem dX6_sortWaves_49 : decode cX6_sortWaves 49 = .ok (.iload_n 3, 1) := by decide +kernel
theorem dX6_sortWaves_50 : decode cX6_sortWaves 50 = .ok (.iconst 1, 1) := by decide +kernel
theorem dX6_sortWaves_51 : decode cX6_sortWaves 51 = .ok (.isub, 1) := by decide +kernel
theorem dX6_sortWaves_52 : decode cX6_sortWaves 52 = .ok (.iaload, 1) := by decide +kernel
theorem dX6_sortWaves_53 : decode cX6_sortWaves 53 = .ok (.iastore, 1) := by decide +kernel
theorem dX6_sortWaves_54 : decode cX6_sortWaves 54 = .ok (.iinc 3 (-1), 3) := by decide +kernel
theorem dX6_sortWaves_57 : decode cX6_sortWaves 57 = .ok (.goto (-37), 3) := by decide +kernel
theorem dX6_sortWaves_60 : decode cX6_sortWaves 60 = .ok (.aload_n 0, 1) := by decide +kernel
theorem dX6_sortWaves_61 : decode cX6_sortWaves 61 = .ok (.getfield 50, 3) := by decide +kernel
theorem dX6_sortWaves_64 : decode cX6_sortWaves 64 = .ok (.iload_n 3, 1) := by decide +kernel
theorem dX6_sortWaves_65 : decode cX6_sortWaves 65 = .ok (.iload_n 2, 1) := by decide +kernel
theorem dX6_sortWaves_66 : decode cX6_sortWaves 66 = .ok (.iastore, 1) := by decide +kernel
theorem dX6_sortWaves_67 : decode cX6_sortWaves 67 = .ok (.iinc 2 1, 3) := by decide +kernel
theorem dX6_sortWaves_70 : decode cX6_sortWaves 70 = .ok (.goto (-57), 3) := by decide +kernel
theorem dX6_sortWaves_73 : decode cX6_sortWaves 73 = .ok (.return_, 1) := by decide +kernel
theorem dX6_runsEarlier_0 : decode cX6_runsEarlier 0 = .ok (.aload_n 0, 1) := by decide +kernel
theorem dX6_runsEarlier_1 : decode cX6_runsEarlier 1 = .ok (.getfield 12, 3) := by decide +kernel
theorem dX6_runsEarlier_4 : decode cX6_runsEarlier 4 = .ok (.getfield 95, 3) := by decide +kernel
theorem dX6_runsEarlier_7 : decode cX6_runsEarlier 7 = .ok (.iload_n 1, 1) := by decide +kernel
theorem dX6_runsEarlier_8 : decode cX6_runsEarlier 8 = .ok (.invokevirtual 197, 3) := by decide +kernel
theorem dX6_runsEarlier_11 : decode cX6_runsEarlier 11 = .ok (.istore_n 3, 1) := by decide +kernel
theorem dX6_runsEarlier_12 : decode cX6_runsEarlier 12 = .ok (.aload_n 0, 1) := by decide +kernel
theorem dX6_runsEarlier_13 : decode cX6_runsEarlier 13 = .ok (.getfield 12, 3) := by decide +kernel
theorem dX6_runsEarlier_16 : decode cX6_runsEarlier 16 = .ok (.getfield 95, 3) := by decide +kernel
theorem dX6_runsEarlier_19 : decode cX6_runsEarlier 19 = .ok (.iload_n 2, 1) := by decide +kernel
theorem dX6_runsEarlier_20 : decode cX6_runsEarlier 20 = .ok (.invokevirtual 197, 3) := by decide +kernel
theorem dX6_runsEarlier_23 : decode cX6_runsEarlier 23 = .ok (.istore 4, 2) := by decide +kernel
theorem dX6_runsEarlier_25 : decode cX6_runsEarlier 25 = .ok (.aload_n 0, 1) := by decide +kernel
theorem dX6_runsEarlier_26 : decode cX6_runsEarlier 26 = .ok (.getfield 12, 3) := by decide +kernel
theorem dX6_runsEarlier_29 : decode cX6_runsEarlier 29 = .ok (.getfield 89, 3) := by decide +kernel
theorem dX6_runsEarlier_32 : decode cX6_runsEarlier 32 = .ok (.iconst 1, 1) := by decide +kernel
theorem dX6_runsEarlier_33 : decode cX6_runsEarlier 33 = .ok (.iaload, 1) := by decide +kernel
theorem dX6_runsEarlier_34 : decode cX6_runsEarlier 34 = .ok (.lookupswitch 50 #[(1, 26), (2, 38)], 26) := by decide +kernel
theorem dX6_runsEarlier_60 : decode cX6_runsEarlier 60 = .ok (.iload_n 3, 1) := by decide +kernel
theorem dX6_runsEarlier_61 : decode cX6_runsEarlier 61 = .ok (.iload 4, 2) := by decide +kernel
theorem dX6_runsEarlier_63 : decode cX6_runsEarlier 63 = .ok (.if_icmp .le 7, 3) := by decide +kernel
theorem dX6_runsEarlier_66 : decode cX6_runsEarlier 66 = .ok (.iconst 1, 1) := by decide +kernel
theorem dX6_runsEarlier_67 : decode cX6_runsEarlier 67 = .ok (.goto 4, 3) := by decide +kernel
theorem dX6_runsEarlier_70 : decode cX6_runsEarlier 70 = .ok (.iconst 0, 1) := by decide +kernel
theorem dX6_runsEarlier_71 : decode cX6_runsEarlier 71 = .ok (.ireturn, 1) := by decide +kernel
theorem dX6_runsEarlier_72 : decode cX6_runsEarlier 72 = .ok (.iload_n 3, 1) := by decide +kernel
theorem dX6_runsEarlier_73 : decode cX6_runsEarlier 73 = .ok (.iload 4, 2) := by decide +kernel
theorem dX6_runsEarlier_75 : decode cX6_runsEarlier 75 = .ok (.if_icmp .ge 7, 3) := by decide +kernel
theorem dX6_runsEarlier_78 : decode cX6_runsEarlier 78 = .ok (.iconst 1, 1) := by decide +kernel
theorem dX6_runsEarlier_79 : decode cX6_runsEarlier 79 = .ok (.goto 4, 3) := by decide +kernel
theorem dX6_runsEarlier_82 : decode cX6_runsEarlier 82 = .ok (.iconst 0, 1) := by decide +kernel
theorem dX6_runsEarlier_83 : decode cX6_runsEarlier 83 = .ok (.ireturn, 1) := by decide +kernel
theorem dX6_runsEarlier_84 : decode cX6_runsEarlier 84 = .ok (.iconst 0, 1) := by decide +kernel
theorem dX6_runsEarlier_85 : decode cX6_runsEarlier 85 = .ok (.ireturn, 1) := by decide +kernel
theorem dX6_letSandFollow_0 : decode cX6_letSandFollow 0 = .ok (.aload_n 0, 1) := by decide +kernel
theorem dX6_letSandFollow_1 : decode cX6_letSandFollow 1 = .ok (.getfield 12, 3) := by decide +kernel
theorem dX6_letSandFollow_4 : decode cX6_letSandFollow 4 = .ok (.getfield 61, 3) := by decide +kernel
theorem dX6_letSandFollow_7 : decode cX6_letSandFollow 7 = .ok (.iload_n 1, 1) := by decide +kernel
theorem dX6_letSandFollow_8 : decode cX6_letSandFollow 8 = .ok (.aload_n 0, 1) := by decide +kernel
theorem dX6_letSandFollow_9 : decode cX6_letSandFollow 9 = .ok (.getfield 12, 3) := by decide +kernel
theorem dX6_letSandFollow_12 : decode cX6_letSandFollow 12 = .ok (.getfield 89, 3) := by decide +kernel
theorem dX6_letSandFollow_15 : decode cX6_letSandFollow 15 = .ok (.iconst 2, 1) := by decide +kernel
theorem dX6_letSandFollow_16 : decode cX6_letSandFollow 16 = .ok (.iaload, 1) := by decide +kernel
theorem dX6_letSandFollow_17 : decode cX6_letSandFollow 17 = .ok (.invokevirtual 244, 3) := by decide +kernel
theorem dX6_letSandFollow_20 : decode cX6_letSandFollow 20 = .ok (.istore_n 2, 1) := by decide +kernel
theorem dX6_letSandFollow_21 : decode cX6_letSandFollow 21 = .ok (.aload_n 0, 1) := by decide +kernel
theorem dX6_letSandFollow_22 : decode cX6_letSandFollow 22 = .ok (.getfield 12, 3) := by decide +kernel
theorem dX6_letSandFollow_25 : decode cX6_letSandFollow 25 = .ok (.getfield 61, 3) := by decide +kernel
theorem dX6_letSandFollow_28 : decode cX6_letSandFollow 28 = .ok (.aload_n 0, 1) := by decide +kernel
theorem dX6_letSandFollow_29 : decode cX6_letSandFollow 29 = .ok (.getfield 12, 3) := by decide +kernel
theorem dX6_letSandFollow_32 : decode cX6_letSandFollow 32 = .ok (.getfield 89, 3) := by decide +kernel
theorem dX6_letSandFollow_35 : decode cX6_letSandFollow 35 = .ok (.iconst 3, 1) := by decide +kernel
theorem dX6_letSandFollow_36 : decode cX6_letSandFollow 36 = .ok (.iaload, 1) := by decide +kernel
theorem dX6_letSandFollow_37 : decode cX6_letSandFollow 37 = .ok (.invokevirtual 247, 3) := by decide +kernel
theorem dX6_letSandFollow_40 : decode cX6_letSandFollow 40 = .ok (.istore_n 3, 1) := by decide +kernel
theorem dX6_letSandFollow_41 : decode cX6_letSandFollow 41 = .ok (.aload_n 0, 1) := by decide +kernel
theorem dX6_letSandFollow_42 : decode cX6_letSandFollow 42 = .ok (.getfield 12, 3) := by decide +kernel
theorem dX6_letSandFollow_45 : decode cX6_letSandFollow 45 = .ok (.getfield 76, 3) := by decide +kernel
theorem dX6_letSandFollow_48 : decode cX6_letSandFollow 48 = .ok (.bipush 7, 2) := by decide +kernel
theorem dX6_letSandFollow_50 : decode cX6_letSandFollow 50 = .ok (.dup2, 1) := by decide +kernel
theorem dX6_letSandFollow_51 : decode cX6_letSandFollow 51 = .ok (.iaload, 1) := by decide +kernel
theorem dX6_letSandFollow_52 : decode cX6_letSandFollow 52 = .ok (.iload_n 2, 1) := by decide +kernel
theorem dX6_letSandFollow_53 : decode cX6_letSandFollow 53 = .ok (.iadd, 1) := by decide +kernel
theorem dX6_letSandFollow_54 : decode cX6_letSandFollow 54 = .ok (.iastore, 1) := by decide +kernel
theorem dX6_letSandFollow_55 : decode cX6_letSandFollow 55 = .ok (.aload_n 0, 1) := by decide +kernel
theorem dX6_letSandFollow_56 : decode cX6_letSandFollow 56 = .ok (.getfield 12, 3) := by decide +kernel
theorem dX6_letSandFollow_59 : decode cX6_letSandFollow 59 = .ok (.getfield 76, 3) := by decide +kernel
theorem dX6_letSandFollow_62 : decode cX6_letSandFollow 62 = .ok (.bipush 8, 2) := by decide +kernel
theorem dX6_letSandFollow_64 : decode cX6_letSandFollow 64 = .ok (.dup2, 1) := by decide +kernel
theorem dX6_letSandFollow_65 : decode cX6_letSandFollow 65 = .ok (.iaload, 1) := by decide +kernel
theorem dX6_letSandFollow_66 : decode cX6_letSandFollow 66 = .ok (.iload_n 3, 1) := by decide +kernel
theorem dX6_letSandFollow_67 : decode cX6_letSandFollow 67 = .ok (.iadd, 1) := by decide +kernel
theorem dX6_letSandFollow_68 : decode cX6_letSandFollow 68 = .ok (.iastore, 1) := by decide +kernel
theorem dX6_letSandFollow_69 : decode cX6_letSandFollow 69 = .ok (.iload_n 2, 1) := by decide +kernel
theorem dX6_letSandFollow_70 : decode cX6_letSandFollow 70 = .ok (.iload_n 3, 1) := by decide +kernel
theorem dX6_letSandFollow_71 : decode cX6_letSandFollow 71 = .ok (.iadd, 1) := by decide +kernel
theorem dX6_letSandFollow_72 : decode cX6_letSandFollow 72 = .ok (.ireturn, 1) := by decide +kernel
theorem dX7_init_0 : decode cX7_init 0 = .ok (.aload_n 0, 1) := by decide +kernel
theorem dX7_init_1 : decode cX7_init 1 = .ok (.invokespecial 1, 3) := by decide +kernel
theorem dX7_init_4 : decode cX7_init 4 = .ok (.aload_n 0, 1) := by decide +kernel
theorem dX7_init_5 : decode cX7_init 5 = .ok (.sipush 311, 3) := by decide +kernel
theorem dX7_init_8 : decode cX7_init 8 = .ok (.newarray .int, 2) := by decide +kernel
theorem dX7_init_10 : decode cX7_init 10 = .ok (.putfield 7, 3) := by decide +kernel
theorem dX7_init_13 : decode cX7_init 13 = .ok (.aload_n 0, 1) := by decide +kernel
theorem dX7_init_14 : decode cX7_init 14 = .ok (.sipush 311, 3) := by decide +kernel
theorem dX7_init_17 : decode cX7_init 17 = .ok (.newarray .int, 2) := by decide +kernel
theorem dX7_init_19 : decode cX7_init 19 = .ok (.putfield 13, 3) := by decide +kernel
theorem dX7_init_22 : decode cX7_init 22 = .ok (.aload_n 0, 1) := by decide +kernel
theorem dX7_init_23 : decode cX7_init 23 = .ok (.sipush 1244, 3) := by decide +kernel
theorem dX7_init_26 : decode cX7_init 26 = .ok (.newarray .int, 2) := by decide +kernel
theorem dX7_init_28 : decode cX7_init 28 = .ok (.putfield 16, 3) := by decide +kernel
theorem dX7_init_31 : decode cX7_init 31 = .ok (.aload_n 0, 1) := by decide +kernel
theorem dX7_init_32 : decode cX7_init 32 = .ok (.sipush 311, 3) := by decide +kernel
theorem dX7_init_35 : decode cX7_init 35 = .ok (.newarray .int, 2) := by decide +kernel
theorem dX7_init_37 : decode cX7_init 37 = .ok (.putfield 19, 3) := by decide +kernel
theorem dX7_init_40 : decode cX7_init 40 = .ok (.aload_n 0, 1) := by decide +kernel
theorem dX7_init_41 : decode cX7_init 41 = .ok (.bipush 7, 2) := by decide +kernel
theorem dX7_init_43 : decode cX7_init 43 = .ok (.newarray .int, 2) := by decide +kernel
theorem dX7_init_45 : decode cX7_init 45 = .ok (.putfield 22, 3) := by decide +kernel
theorem dX7_init_48 : decode cX7_init 48 = .ok (.aload_n 0, 1) := by decide +kernel
theorem dX7_init_49 : decode cX7_init 49 = .ok (.bipush 24, 2) := by decide +kernel
theorem dX7_init_51 : decode cX7_init 51 = .ok (.newarray .int, 2) := by decide +kernel
theorem dX7_init_53 : decode cX7_init 53 = .ok (.putfield 25, 3) := by decide +kernel
theorem dX7_init_56 : decode cX7_init 56 = .ok (.aload_n 0, 1) := by decide +kernel
theorem dX7_init_57 : decode cX7_init 57 = .ok (.bipush 80, 2) := by decide +kernel
theorem dX7_init_59 : decode cX7_init 59 = .ok (.newarray .int, 2) := by decide +kernel
theorem dX7_init_61 : decode cX7_init 61 = .ok (.putfield 28, 3) := by decide +kernel
theorem dX7_init_64 : decode cX7_init 64 = .ok (.aload_n 0, 1) := by decide +kernel
theorem dX7_init_65 : decode cX7_init 65 = .ok (.bipush 60, 2) := by decide +kernel
theorem dX7_init_67 : decode cX7_init 67 = .ok (.newarray .int, 2) := by decide +kernel
theorem dX7_init_69 : decode cX7_init 69 = .ok (.putfield 31, 3) := by decide +kernel
theorem dX7_init_72 : decode cX7_init 72 = .ok (.aload_n 0, 1) := by decide +kernel
theorem dX7_init_73 : decode cX7_init 73 = .ok (.bipush 48, 2) := by decide +kernel
theorem dX7_init_75 : decode cX7_init 75 = .ok (.newarray .int, 2) := by decide +kernel
theorem dX7_init_77 : decode cX7_init 77 = .ok (.putfield 34, 3) := by decide +kernel
theorem dX7_init_80 : decode cX7_init 80 = .ok (.iconst 0, 1) := by decide +kernel
theorem dX7_init_81 : decode cX7_init 81 = .ok (.istore_n 1, 1) := by decide +kernel
theorem dX7_init_82 : decode cX7_init 82 = .ok (.iload_n 1, 1) := by decide +kernel
theorem dX7_init_83 : decode cX7_init 83 = .ok (.bipush 80, 2) := by decide +kernel
theorem dX7_init_85 : decode cX7_init 85 = .ok (.if_icmp .ge 24, 3) := by decide +kernel
theorem dX7_init_88 : decode cX7_init 88 = .ok (.aload_n 0, 1) := by decide +kernel
theorem dX7_init_89 : decode cX7_init 89 = .ok (.getfield 7, 3) := by decide +kernel
theorem dX7_init_92 : decode cX7_init 92 = .ok (.iload_n 1, 1) := by decide +kernel
theorem dX7_init_93 : decode cX7_init 93 = .ok (.bipush 60, 2) := by decide +kernel
theorem dX7_init_95 : decode cX7_init 95 = .ok (.iconst 3, 1) := by decide +kernel
theorem dX7_init_96 : decode cX7_init 96 = .ok (.iload_n 1, 1) := by decide +kernel
theorem dX7_init_97 : decode cX7_init 97 = .ok (.bipush 20, 2) := by decide +kernel
theorem dX7_init_99 : decode cX7_init 99 = .ok (.irem, 1) := by decide +kernel
theorem dX7_init_100 : decode cX7_init 100 = .ok (.imul, 1) := by decide +kernel
theorem dX7_init_101 : decode cX7_init 101 = .ok (.isub, 1) := by decide +kernel
theorem dX7_init_102 : decode cX7_init 102 = .ok (.iastore, 1) := by decide +kernel
theorem dX7_init_103 : decode cX7_init 103 = .ok (.iinc 1 1, 3) := by decide +kernel
theorem dX7_init_106 : decode cX7_init 106 = .ok (.goto (-24), 3) := by decide +kernel
theorem dX7_init_109 : decode cX7_init 109 = .ok (.aload_n 0, 1) := by decide +kernel
theorem dX7_init_110 : decode cX7_init 110 = .ok (.getfield 7, 3) := by decide +kernel
theorem dX7_init_113 : decode cX7_init 113 = .ok (.bipush 80, 2) := by decide +kernel
theorem dX7_init_115 : decode cX7_init 115 = .ok (.bipush 40, 2) := by decide +kernel
theorem dX7_init_117 : decode cX7_init 117 = .ok (.iastore, 1) := by decide +kernel
theorem dX7_init_118 : decode cX7_init 118 = .ok (.aload_n 0, 1) := by decide +kernel
theorem dX7_init_119 : decode cX7_init 119 = .ok (.getfield 7, 3) := by decide +kernel
theorem dX7_init_122 : decode cX7_init 122 = .ok (.bipush 81, 2) := by decide +kernel
theorem dX7_init_124 : decode cX7_init 124 = .ok (.bipush 8, 2) := by decide +kernel
theorem dX7_init_126 : decode cX7_init 126 = .ok (.iastore, 1) := by decide +kernel
theorem dX7_init_127 : decode cX7_init 127 = .ok (.aload_n 0, 1) := by decide +kernel
theorem dX7_init_128 : decode cX7_init 128 = .ok (.getfield 7, 3) := by decide +kernel
theorem dX7_init_131 : decode cX7_init 131 = .ok (.bipush 83, 2) := by decide +kernel
theorem dX7_init_133 : decode cX7_init 133 = .ok (.iconst 3, 1) := by decide +kernel
theorem dX7_init_134 : decode cX7_init 134 = .ok (.iastore, 1) := by decide +kernel
theorem dX7_init_135 : decode cX7_init 135 = .ok (.aload_n 0, 1) := by decide +kernel
theorem dX7_init_136 : decode cX7_init 136 = .ok (.getfield 7, 3) := by decide +kernel
theorem dX7_init_139 : decode cX7_init 139 = .ok (.bipush 84, 2) := by decide +kernel
theorem dX7_init_141 : decode cX7_init 141 = .ok (.bipush 12, 2) := by decide +kernel
theorem dX7_init_143 : decode cX7_init 143 = .ok (.iastore, 1) := by decide +kernel
theorem dX7_init_144 : decode cX7_init 144 = .ok (.return_, 1) := by decide +kernel
theorem dX7_in_0 : decode cX7_in 0 = .ok (.lload_n 0, 1) := by decide +kernel
theorem dX7_in_1 : decode cX7_in 1 = .ok (.lload_n 2, 1) := by decide +kernel
theorem dX7_in_2 : decode cX7_in 2 = .ok (.lcmp, 1) := by decide +kernel
theorem dX7_in_3 : decode cX7_in 3 = .ok (.ifCond .lt 14, 3) := by decide +kernel
theorem dX7_in_6 : decode cX7_in 6 = .ok (.lload_n 0, 1) := by decide +kernel
theorem dX7_in_7 : decode cX7_in 7 = .ok (.lload 4, 2) := by decide +kernel
theorem dX7_in_9 : decode cX7_in 9 = .ok (.lcmp, 1) := by decide +kernel
theorem dX7_in_10 : decode cX7_in 10 = .ok (.ifCond .gt 7, 3) := by decide +kernel
theorem dX7_in_13 : decode cX7_in 13 = .ok (.iconst 1, 1) := by decide +kernel
theorem dX7_in_14 : decode cX7_in 14 = .ok (.goto 4, 3) := by decide +kernel
theorem dX7_in_17 : decode cX7_in 17 = .ok (.iconst 0, 1) := by decide +kernel
theorem dX7_in_18 : decode cX7_in 18 = .ok (.ireturn, 1) := by decide +kernel
theorem dX7_remember_0 : decode cX7_remember 0 = .ok (.iconst 0, 1) := by decide +kernel
theorem dX7_remember_1 : decode cX7_remember 1 = .ok (.istore_n 1, 1) := by decide +kernel
theorem dX7_remember_2 : decode cX7_remember 2 = .ok (.iload_n 1, 1) := by decide +kernel
theorem dX7_remember_3 : decode cX7_remember 3 = .ok (.sipush 311, 3) := by decide +kernel
theorem dX7_remember_6 : decode cX7_remember 6 = .ok (.if_icmp .ge 21, 3) := by decide +kernel
theorem dX7_remember_9 : decode cX7_remember 9 = .ok (.aload_n 0, 1) := by decide +kernel
theorem dX7_remember_10 : decode cX7_remember 10 = .ok (.getfield 13, 3) := by decide +kernel
theorem dX7_remember_13 : decode cX7_remember 13 = .ok (.iload_n 1, 1) := by decide +kernel
theorem dX7_remember_14 : decode cX7_remember 14 = .ok (.aload_n 0, 1) := by decide +kernel
theorem dX7_remember_15 : decode cX7_remember 15 = .ok (.getfield 7, 3) := by decide +kernel
theorem dX7_remember_18 : decode cX7_remember 18 = .ok (.iload_n 1, 1) := by decide +kernel
theorem dX7_remember_19 : decode cX7_remember 19 = .ok (.iaload, 1) := by decide +kernel
theorem dX7_remember_20 : decode cX7_remember 20 = .ok (.iastore, 1) := by decide +kernel
theorem dX7_remember_21 : decode cX7_remember 21 = .ok (.iinc 1 1, 3) := by decide +kernel
theorem dX7_remember_24 : decode cX7_remember 24 = .ok (.goto (-22), 3) := by decide +kernel
theorem dX7_remember_27 : decode cX7_remember 27 = .ok (.return_, 1) := by decide +kernel
theorem dX7_acted_0 : decode cX7_acted 0 = .ok (.aload_n 0, 1) := by decide +kernel
theorem dX7_acted_1 : decode cX7_acted 1 = .ok (.getfield 37, 3) := by decide +kernel
theorem dX7_acted_4 : decode cX7_acted 4 = .ok (.iconst 4, 1) := by decide +kernel
theorem dX7_acted_5 : decode cX7_acted 5 = .ok (.if_icmp .ne 44, 3) := by decide +kernel
theorem dX7_acted_8 : decode cX7_acted 8 = .ok (.iconst 0, 1) := by decide +kernel
theorem dX7_acted_9 : decode cX7_acted 9 = .ok (.istore_n 2, 1) := by decide +kernel
theorem dX7_acted_10 : decode cX7_acted 10 = .ok (.iload_n 2, 1) := by decide +kernel
theorem dX7_acted_11 : decode cX7_acted 11 = .ok (.sipush 933, 3) := by decide +kernel
theorem dX7_acted_14 : decode cX7_acted 14 = .ok (.if_icmp .ge 25, 3) := by decide +kernel
theorem dX7_acted_17 : decode cX7_acted 17 = .ok (.aload_n 0, 1) := by decide +kernel
theorem dX7_acted_18 : decode cX7_acted 18 = .ok (.getfield 16, 3) := by decide +kernel
theorem dX7_acted_21 : decode cX7_acted 21 = .ok (.iload_n 2, 1) := by decide +kernel
theorem dX7_acted_22 : decode cX7_acted 22 = .ok (.aload_n 0, 1) := by decide +kernel
theorem dX7_acted_23 : decode cX7_acted 23 = .ok (.getfield 16, 3) := by decide +kernel
theorem dX7_acted_26 : decode cX7_acted 26 = .ok (.iload_n 2, 1) := by decide +kernel
theorem dX7_acted_27 : decode cX7_acted 27 = .ok (.sipush 311, 3) := by decide +kernel
theorem dX7_acted_30 : decode cX7_acted 30 = .ok (.iadd, 1) := by decide +kernel
theorem dX7_acted_31 : decode cX7_acted 31 = .ok (.iaload, 1) := by decide +kernel
theorem dX7_acted_32 : decode cX7_acted 32 = .ok (.iastore, 1) := by decide +kernel
theorem dX7_acted_33 : decode cX7_acted 33 = .ok (.iinc 2 1, 3) := by decide +kernel
theorem dX7_acted_36 : decode cX7_acted 36 = .ok (.goto (-26), 3) := by decide +kernel
theorem dX7_acted_39 : decode cX7_acted 39 = .ok (.aload_n 0, 1) := by decide +kernel
theorem dX7_acted_40 : decode cX7_acted 40 = .ok (.dup, 1) := by decide +kernel
theorem dX7_acted_41 : decode cX7_acted 41 = .ok (.getfield 37, 3) := by decide +kernel
theorem dX7_acted_44 : decode cX7_acted 44 = .ok (.iconst 1, 1) := by decide +kernel
theorem dX7_acted_45 : decode cX7_acted 45 = .ok (.isub, 1) := by decide +kernel
theorem dX7_acted_46 : decode cX7_acted 46 = .ok (.putfield 37, 3) := by decide +kernel
theorem dX7_acted_49 : decode cX7_acted 49 = .ok (.iconst 0, 1) := by decide +kernel
theorem dX7_acted_50 : decode cX7_acted 50 = .ok (.istore_n 2, 1) := by decide +kernel
theorem dX7_acted_51 : decode cX7_acted 51 = .ok (.iload_n 2, 1) := by decide +kernel
theorem dX7_acted_52 : decode cX7_acted 52 = .ok (.sipush 311, 3) := by decide +kernel
theorem dX7_acted_55 : decode cX7_acted 55 = .ok (.if_icmp .ge 30, 3) := by decide +kernel
theorem dX7_acted_58 : decode cX7_acted 58 = .ok (.aload_n 0, 1) := by decide +kernel
theorem dX7_acted_59 : decode cX7_acted 59 = .ok (.getfield 16, 3) := by decide +kernel
theorem dX7_acted_62 : decode cX7_acted 62 = .ok (.sipush 311, 3) := by decide +kernel
theorem dX7_acted_65 : decode cX7_acted 65 = .ok (.aload_n 0, 1) := by decide +kernel
theorem dX7_acted_66 : decode cX7_acted 66 = .ok (.getfield 37, 3) := by decide +kernel
theorem dX7_acted_69 : decode cX7_acted 69 = .ok (.imul, 1) := by decide +kernel
theorem dX7_acted_70 : decode cX7_acted 70 = .ok (.iload_n 2, 1) := by decide +kernel
theorem dX7_acted_71 : decode cX7_acted 71 = .ok (.iadd, 1) := by decide +kernel
theorem dX7_acted_72 : decode cX7_acted 72 = .ok (.aload_n 0, 1) := by decide +kernel
theorem dX7_acted_73 : decode cX7_acted 73 = .ok (.getfield 13, 3) := by decide +kernel
theorem dX7_acted_76 : decode cX7_acted 76 = .ok (.iload_n 2, 1) := by decide +kernel
theorem dX7_acted_77 : decode cX7_acted 77 = .ok (.iaload, 1) := by decide +kernel
theorem dX7_acted_78 : decode cX7_acted 78 = .ok (.iastore, 1) := by decide +kernel
theorem dX7_acted_79 : decode cX7_acted 79 = .ok (.iinc 2 1, 3) := by decide +kernel
theorem dX7_acted_82 : decode cX7_acted 82 = .ok (.goto (-31), 3) := by decide +kernel
theorem dX7_acted_85 : decode cX7_acted 85 = .ok (.aload_n 0, 1) := by decide +kernel
theorem dX7_acted_86 : decode cX7_acted 86 = .ok (.dup, 1) := by decide +kernel
theorem dX7_acted_87 : decode cX7_acted 87 = .ok (.getfield 37, 3) := by decide +kernel
theorem dX7_acted_90 : decode cX7_acted 90 = .ok (.iconst 1, 1) := by decide +kernel
theorem dX7_acted_91 : decode cX7_acted 91 = .ok (.iadd, 1) := by decide +kernel
theorem dX7_acted_92 : decode cX7_acted 92 = .ok (.putfield 37, 3) := by decide +kernel
theorem dX7_acted_95 : decode cX7_acted 95 = .ok (.iload_n 1, 1) := by decide +kernel
theorem dX7_acted_96 : decode cX7_acted 96 = .ok (.ireturn, 1) := by decide +kernel
theorem dX7_isRow_0 : decode cX7_isRow 0 = .ok (.iload_n 0, 1) := by decide +kernel
theorem dX7_isRow_1 : decode cX7_isRow 1 = .ok (.i2l, 1) := by decide +kernel
theorem dX7_isRow_2 : decode cX7_isRow 2 = .ok (.lconst 0, 1) := by decide +kernel
theorem dX7_isRow_3 : decode cX7_isRow 3 = .ok (.ldc2_w 41, 3) := by decide +kernel
theorem dX7_isRow_6 : decode cX7_isRow 6 = .ok (.invokestatic 43, 3) := by decide +kernel
theorem dX7_isRow_9 : decode cX7_isRow 9 = .ok (.ireturn, 1) := by decide +kernel
theorem dX7_isCell_0 : decode cX7_isCell 0 = .ok (.iload_n 0, 1) := by decide +kernel
theorem dX7_isCell_1 : decode cX7_isCell 1 = .ok (.i2l, 1) := by decide +kernel
theorem dX7_isCell_2 : decode cX7_isCell 2 = .ok (.lconst 0, 1) := by decide +kernel
theorem dX7_isCell_3 : decode cX7_isCell 3 = .ok (.ldc2_w 47, 3) := by decide +kernel
theorem dX7_isCell_6 : decode cX7_isCell 6 = .ok (.invokestatic 43, 3) := by decide +kernel
theorem dX7_isCell_9 : decode cX7_isCell 9 = .ok (.ireturn, 1) := by decide +kernel
theorem dX7_heightOf_0 : decode cX7_heightOf 0 = .ok (.aload_n 0, 1) := by decide +kernel
theorem dX7_heightOf_1 : decode cX7_heightOf 1 = .ok (.getfield 7, 3) := by decide +kernel
theorem dX7_heightOf_4 : decode cX7_heightOf 4 = .ok (.bipush 20, 2) := by decide +kernel
theorem dX7_heightOf_6 : decode cX7_heightOf 6 = .ok (.iload_n 1, 1) := by decide +kernel
theorem dX7_heightOf_7 : decode cX7_heightOf 7 = .ok (.imul, 1) := by decide +kernel
theorem dX7_heightOf_8 : decode cX7_heightOf 8 = .ok (.iload_n 2, 1) := by decide +kernel
theorem dX7_heightOf_9 : decode cX7_heightOf 9 = .ok (.iadd, 1) := by decide +kernel
theorem dX7_heightOf_10 : decode cX7_heightOf 10 = .ok (.iaload, 1) := by decide +kernel
theorem dX7_heightOf_11 : decode cX7_heightOf 11 = .ok (.ireturn, 1) := by decide +kernel
theorem dX7_depth_0 : decode cX7_depth 0 = .ok (.aload_n 0, 1) := by decide +kernel
theorem dX7_depth_1 : decode cX7_depth 1 = .ok (.getfield 7, 3) := by decide +kernel
theorem dX7_depth_4 : decode cX7_depth 4 = .ok (.bipush 80, 2) := by decide +kernel
theorem dX7_depth_6 : decode cX7_depth 6 = .ok (.iaload, 1) := by decide +kernel
theorem dX7_depth_7 : decode cX7_depth 7 = .ok (.aload_n 0, 1) := by decide +kernel
theorem dX7_depth_8 : decode cX7_depth 8 = .ok (.getfield 49, 3) := by decide +kernel
theorem dX7_depth_11 : decode cX7_depth 11 = .ok (.iadd, 1) := by decide +kernel
theorem dX7_depth_12 : decode cX7_depth 12 = .ok (.aload_n 0, 1) := by decide +kernel
theorem dX7_depth_13 : decode cX7_depth 13 = .ok (.iload_n 1, 1) := by decide +kernel
theorem dX7_depth_14 : decode cX7_depth 14 = .ok (.iload_n 2, 1) := by decide +kernel
theorem dX7_depth_15 : decode cX7_depth 15 = .ok (.invokevirtual 52, 3) := by decide +kernel
theorem dX7_depth_18 : decode cX7_depth 18 = .ok (.isub, 1) := by decide +kernel
theorem dX7_depth_19 : decode cX7_depth 19 = .ok (.ireturn, 1) := by decide +kernel
theorem dX7_isDry_0 : decode cX7_isDry 0 = .ok (.aload_n 0, 1) := by decide +kernel
theorem dX7_isDry_1 : decode cX7_isDry 1 = .ok (.iload_n 1, 1) := by decide +kernel
theorem dX7_isDry_2 : decode cX7_isDry 2 = .ok (.iload_n 2, 1) := by decide +kernel
theorem dX7_isDry_3 : decode cX7_isDry 3 = .ok (.invokevirtual 56, 3) := by decide +kernel
theorem dX7_isDry_6 : decode cX7_isDry 6 = .ok (.ifCond .gt 7, 3) := by decide +kernel
theorem dX7_isDry_9 : decode cX7_isDry 9 = .ok (.iconst 1, 1) := by decide +kernel
theorem dX7_isDry_10 : decode cX7_isDry 10 = .ok (.goto 4, 3) := by decide +kernel
theorem dX7_isDry_13 : decode cX7_isDry 13 = .ok (.iconst 0, 1) := by decide +kernel
theorem dX7_isDry_14 : decode cX7_isDry 14 = .ok (.ireturn, 1) := by decide +kernel
theorem dX7_isBar_0 : decode cX7_isBar 0 = .ok (.iload_n 2, 1) := by decide +kernel
theorem dX7_isBar_1 : decode cX7_isBar 1 = .ok (.i2l, 1) := by decide +kernel
theorem dX7_isBar_2 : decode cX7_isBar 2 = .ok (.lconst 1, 1) := by decide +kernel
theorem dX7_isBar_3 : decode cX7_isBar 3 = .ok (.ldc2_w 59, 3) := by decide +kernel
theorem dX7_isBar_6 : decode cX7_isBar 6 = .ok (.invokestatic 43, 3) := by decide +kernel
theorem dX7_isBar_9 : decode cX7_isBar 9 = .ok (.ifCond .eq 50, 3) := by decide +kernel
theorem dX7_isBar_12 : decode cX7_isBar 12 = .ok (.aload_n 0, 1) := by decide +kernel
theorem dX7_isBar_13 : decode cX7_isBar 13 = .ok (.iload_n 1, 1) := by decide +kernel
theorem dX7_isBar_14 : decode cX7_isBar 14 = .ok (.iload_n 2, 1) := by decide +kernel
theorem dX7_isBar_15 : decode cX7_isBar 15 = .ok (.invokevirtual 61, 3) := by decide +kernel
theorem dX7_isBar_18 : decode cX7_isBar 18 = .ok (.ifCond .ne 41, 3) := by decide +kernel
theorem dX7_isBar_21 : decode cX7_isBar 21 = .ok (.aload_n 0, 1) := by decide +kernel
theorem dX7_isBar_22 : decode cX7_isBar 22 = .ok (.iload_n 1, 1) := by decide +kernel
theorem dX7_isBar_23 : decode cX7_isBar 23 = .ok (.iload_n 2, 1) := by decide +kernel
theorem dX7_isBar_24 : decode cX7_isBar 24 = .ok (.invokevirtual 52, 3) := by decide +kernel
theorem dX7_isBar_27 : decode cX7_isBar 27 = .ok (.aload_n 0, 1) := by decide +kernel
theorem dX7_isBar_28 : decode cX7_isBar 28 = .ok (.iload_n 1, 1) := by decide +kernel
theorem dX7_isBar_29 : decode cX7_isBar 29 = .ok (.iload_n 2, 1) := by decide +kernel
theorem dX7_isBar_30 : decode cX7_isBar 30 = .ok (.iconst 1, 1) := by decide +kernel
theorem dX7_isBar_31 : decode cX7_isBar 31 = .ok (.isub, 1) := by decide +kernel
theorem dX7_isBar_32 : decode cX7_isBar 32 = .ok (.invokevirtual 52, 3) := by decide +kernel
theorem dX7_isBar_35 : decode cX7_isBar 35 = .ok (.if_icmp .le 24, 3) := by decide +kernel
theorem dX7_isBar_38 : decode cX7_isBar 38 = .ok (.aload_n 0, 1) := by decide +kernel
theorem dX7_isBar_39 : decode cX7_isBar 39 = .ok (.iload_n 1, 1) := by decide +kernel
theorem dX7_isBar_40 : decode cX7_isBar 40 = .ok (.iload_n 2, 1) := by decide +kernel
theorem dX7_isBar_41 : decode cX7_isBar 41 = .ok (.invokevirtual 52, 3) := by decide +kernel
theorem dX7_isBar_44 : decode cX7_isBar 44 = .ok (.aload_n 0, 1) := by decide +kernel
theorem dX7_isBar_45 : decode cX7_isBar 45 = .ok (.iload_n 1, 1) := by decide +kernel
theorem dX7_isBar_46 : decode cX7_isBar 46 = .ok (.iload_n 2, 1) := by decide +kernel
theorem dX7_isBar_47 : decode cX7_isBar 47 = .ok (.iconst 1, 1) := by decide +kernel
theorem dX7_isBar_48 : decode cX7_isBar 48 = .ok (.iadd, 1) := by decide +kernel
theorem dX7_isBar_49 : decode cX7_isBar 49 = .ok (.invokevirtual 52, 3) := by decide +kernel
theorem dX7_isBar_52 : decode cX7_isBar 52 = .ok (.if_icmp .le 7, 3) := by decide +kernel
theorem dX7_isBar_55 : decode cX7_isBar 55 = .ok (.iconst 1, 1) := by decide +kernel
theorem dX7_isBar_56 : decode cX7_isBar 56 = .ok (.goto 4, 3) := by decide +kernel
theorem dX7_isBar_59 : decode cX7_isBar 59 = .ok (.iconst 0, 1) := by decide +kernel
theorem dX7_isBar_60 : decode cX7_isBar 60 = .ok (.ireturn, 1) := by decide +kernel
theorem dX7_isBarAbove_0 : decode cX7_isBarAbove 0 = .ok (.iload_n 1, 1) := by decide +kernel
theorem dX7_isBarAbove_1 : decode cX7_isBarAbove 1 = .ok (.invokestatic 65, 3) := by decide +kernel
theorem dX7_isBarAbove_4 : decode cX7_isBarAbove 4 = .ok (.ifCond .eq 34, 3) := by decide +kernel
theorem dX7_isBarAbove_7 : decode cX7_isBarAbove 7 = .ok (.aload_n 0, 1) := by decide +kernel
theorem dX7_isBarAbove_8 : decode cX7_isBarAbove 8 = .ok (.iload_n 1, 1) := by decide +kernel
theorem dX7_isBarAbove_9 : decode cX7_isBarAbove 9 = .ok (.iload_n 2, 1) := by decide +kernel
theorem dX7_isBarAbove_10 : decode cX7_isBarAbove 10 = .ok (.invokevirtual 69, 3) := by decide +kernel
theorem dX7_isBarAbove_13 : decode cX7_isBarAbove 13 = .ok (.ifCond .eq 25, 3) := by decide +kernel
theorem dX7_isBarAbove_16 : decode cX7_isBarAbove 16 = .ok (.aload_n 0, 1) := by decide +kernel
theorem dX7_isBarAbove_17 : decode cX7_isBarAbove 17 = .ok (.iload_n 1, 1) := by decide +kernel
theorem dX7_isBarAbove_18 : decode cX7_isBarAbove 18 = .ok (.iload_n 2, 1) := by decide +kernel
theorem dX7_isBarAbove_19 : decode cX7_isBarAbove 19 = .ok (.invokevirtual 52, 3) := by decide +kernel
theorem dX7_isBarAbove_22 : decode cX7_isBarAbove 22 = .ok (.iload_n 3, 1) := by decide +kernel
theorem dX7_isBarAbove_23 : decode cX7_isBarAbove 23 = .ok (.isub, 1) := by decide +kernel
theorem dX7_isBarAbove_24 : decode cX7_isBarAbove 24 = .ok (.aload_n 0, 1) := by decide +kernel
theorem dX7_isBarAbove_25 : decode cX7_isBarAbove 25 = .ok (.getfield 7, 3) := by decide +kernel
theorem dX7_isBarAbove_28 : decode cX7_isBarAbove 28 = .ok (.bipush 83, 2) := by decide +kernel
theorem dX7_isBarAbove_30 : decode cX7_isBarAbove 30 = .ok (.iaload, 1) := by decide +kernel
theorem dX7_isBarAbove_31 : decode cX7_isBarAbove 31 = .ok (.if_icmp .lt 7, 3) := by decide +kernel
theorem dX7_isBarAbove_34 : decode cX7_isBarAbove 34 = .ok (.iconst 1, 1) := by decide +kernel
theorem dX7_isBarAbove_35 : decode cX7_isBarAbove 35 = .ok (.goto 4, 3) := by decide +kernel
theorem dX7_isBarAbove_38 : decode cX7_isBarAbove 38 = .ok (.iconst 0, 1) := by decide +kernel
theorem dX7_isBarAbove_39 : decode cX7_isBarAbove 39 = .ok (.ireturn, 1) := by decide +kernel
theorem dX7_isGap_0 : decode cX7_isGap 0 = .ok (.iload_n 2, 1) := by decide +kernel
theorem dX7_isGap_1 : decode cX7_isGap 1 = .ok (.i2l, 1) := by decide +kernel
theorem dX7_isGap_2 : decode cX7_isGap 2 = .ok (.lconst 1, 1) := by decide +kernel
theorem dX7_isGap_3 : decode cX7_isGap 3 = .ok (.ldc2_w 59, 3) := by decide +kernel
theorem dX7_isGap_6 : decode cX7_isGap 6 = .ok (.invokestatic 43, 3) := by decide +kernel
theorem dX7_isGap_9 : decode cX7_isGap 9 = .ok (.ifCond .eq 21, 3) := by decide +kernel
theorem dX7_isGap_12 : decode cX7_isGap 12 = .ok (.aload_n 0, 1) := by decide +kernel
theorem dX7_isGap_13 : decode cX7_isGap 13 = .ok (.iload_n 1, 1) := by decide +kernel
theorem dX7_isGap_14 : decode cX7_isGap 14 = .ok (.iload_n 2, 1) := by decide +kernel
theorem dX7_isGap_15 : decode cX7_isGap 15 = .ok (.invokevirtual 61, 3) := by decide +kernel
theorem dX7_isGap_18 : decode cX7_isGap 18 = .ok (.ifCond .ne 12, 3) := by decide +kernel
theorem dX7_isGap_21 : decode cX7_isGap 21 = .ok (.aload_n 0, 1) := by decide +kernel
theorem dX7_isGap_22 : decode cX7_isGap 22 = .ok (.iload_n 1, 1) := by decide +kernel
theorem dX7_isGap_23 : decode cX7_isGap 23 = .ok (.iload_n 2, 1) := by decide +kernel
theorem dX7_isGap_24 : decode cX7_isGap 24 = .ok (.invokevirtual 69, 3) := by decide +kernel
theorem dX7_isGap_27 : decode cX7_isGap 27 = .ok (.ifCond .eq 5, 3) := by decide +kernel
theorem dX7_isGap_30 : decode cX7_isGap 30 = .ok (.iconst 0, 1) := by decide +kernel
theorem dX7_isGap_31 : decode cX7_isGap 31 = .ok (.ireturn, 1) := by decide +kernel
theorem dX7_isGap_32 : decode cX7_isGap 32 = .ok (.aload_n 0, 1) := by decide +kernel
theorem dX7_isGap_33 : decode cX7_isGap 33 = .ok (.iload_n 1, 1) := by decide +kernel
theorem dX7_isGap_34 : decode cX7_isGap 34 = .ok (.iload_n 2, 1) := by decide +kernel
theorem dX7_isGap_35 : decode cX7_isGap 35 = .ok (.invokevirtual 52, 3) := by decide +kernel
theorem dX7_isGap_38 : decode cX7_isGap 38 = .ok (.istore_n 3, 1) := by decide +kernel
theorem dX7_isGap_39 : decode cX7_isGap 39 = .ok (.aload_n 0, 1) := by decide +kernel
theorem dX7_isGap_40 : decode cX7_isGap 40 = .ok (.iload_n 1, 1) := by decide +kernel
theorem dX7_isGap_41 : decode cX7_isGap 41 = .ok (.iconst 1, 1) := by decide +kernel
theorem dX7_isGap_42 : decode cX7_isGap 42 = .ok (.isub, 1) := by decide +kernel
theorem dX7_isGap_43 : decode cX7_isGap 43 = .ok (.iload_n 2, 1) := by decide +kernel
theorem dX7_isGap_44 : decode cX7_isGap 44 = .ok (.iload_n 3, 1) := by decide +kernel
theorem dX7_isGap_45 : decode cX7_isGap 45 = .ok (.invokevirtual 72, 3) := by decide +kernel
theorem dX7_isGap_48 : decode cX7_isGap 48 = .ok (.ifCond .ne 15, 3) := by decide +kernel
theorem dX7_isGap_51 : decode cX7_isGap 51 = .ok (.aload_n 0, 1) := by decide +kernel
theorem dX7_isGap_52 : decode cX7_isGap 52 = .ok (.iload_n 1, 1) := by decide +kernel
theorem dX7_isGap_53 : decode cX7_isGap 53 = .ok (.iconst 1, 1) := by decide +kernel
theorem dX7_isGap_54 : decode cX7_isGap 54 = .ok (.iadd, 1) := by decide +kernel
theorem dX7_isGap_55 : decode cX7_isGap 55 = .ok (.iload_n 2, 1) := by decide +kernel
theorem dX7_isGap_56 : decode cX7_isGap 56 = .ok (.iload_n 3, 1) := by decide +kernel
theorem dX7_isGap_57 : decode cX7_isGap 57 = .ok (.invokevirtual 72, 3) := by decide +kernel
theorem dX7_isGap_60 : decode cX7_isGap 60 = .ok (.ifCond .eq 7, 3) := by decide +kernel
theorem dX7_isGap_63 : decode cX7_isGap 63 = .ok (.iconst 1, 1) := by decide +kernel
theorem dX7_isGap_64 : decode cX7_isGap 64 = .ok (.goto 4, 3) := by decide +kernel
theorem dX7_isGap_67 : decode cX7_isGap 67 = .ok (.iconst 0, 1) := by decide +kernel
theorem dX7_isGap_68 : decode cX7_isGap 68 = .ok (.ireturn, 1) := by decide +kernel
theorem dX7_moves_0 : decode cX7_moves 0 = .ok (.iload 4, 2) := by decide +kernel
theorem dX7_moves_2 : decode cX7_moves 2 = .ok (.aload_n 0, 1) := by decide +kernel
theorem dX7_moves_3 : decode cX7_moves 3 = .ok (.iload_n 1, 1) := by decide +kernel
theorem dX7_moves_4 : decode cX7_moves 4 = .ok (.iload_n 2, 1) := by decide +kernel
theorem dX7_moves_5 : decode cX7_moves 5 = .ok (.invokevirtual 52, 3) := by decide +kernel
theorem dX7_moves_8 : decode cX7_moves 8 = .ok (.if_icmp .ge 8, 3) := by decide +kernel
theorem dX7_moves_11 : decode cX7_moves 11 = .ok (.iload 4, 2) := by decide +kernel
theorem dX7_moves_13 : decode cX7_moves 13 = .ok (.goto 9, 3) := by decide +kernel
theorem dX7_moves_16 : decode cX7_moves 16 = .ok (.aload_n 0, 1) := by decide +kernel
theorem dX7_moves_17 : decode cX7_moves 17 = .ok (.iload_n 1, 1) := by decide +kernel
theorem dX7_moves_18 : decode cX7_moves 18 = .ok (.iload_n 2, 1) := by decide +kernel
theorem dX7_moves_19 : decode cX7_moves 19 = .ok (.invokevirtual 52, 3) := by decide +kernel
theorem dX7_moves_22 : decode cX7_moves 22 = .ok (.istore 5, 2) := by decide +kernel
theorem dX7_moves_24 : decode cX7_moves 24 = .ok (.iload_n 3, 1) := by decide +kernel
theorem dX7_moves_25 : decode cX7_moves 25 = .ok (.ifCond .ge 19, 3) := by decide +kernel
theorem dX7_moves_28 : decode cX7_moves 28 = .ok (.aload_n 0, 1) := by decide +kernel
theorem dX7_moves_29 : decode cX7_moves 29 = .ok (.getfield 7, 3) := by decide +kernel
theorem dX7_moves_32 : decode cX7_moves 32 = .ok (.sipush 135, 3) := by decide +kernel
theorem dX7_moves_35 : decode cX7_moves 35 = .ok (.dup2, 1) := by decide +kernel
theorem dX7_moves_36 : decode cX7_moves 36 = .ok (.iaload, 1) := by decide +kernel
theorem dX7_moves_37 : decode cX7_moves 37 = .ok (.iload 5, 2) := by decide +kernel
theorem dX7_moves_39 : decode cX7_moves 39 = .ok (.iadd, 1) := by decide +kernel
theorem dX7_moves_40 : decode cX7_moves 40 = .ok (.iastore, 1) := by decide +kernel
theorem dX7_moves_41 : decode cX7_moves 41 = .ok (.goto 68, 3) := by decide +kernel
theorem dX7_moves_44 : decode cX7_moves 44 = .ok (.iload_n 3, 1) := by decide +kernel
theorem dX7_moves_45 : decode cX7_moves 45 = .ok (.bipush 20, 2) := by decide +kernel
theorem dX7_moves_47 : decode cX7_moves 47 = .ok (.if_icmp .ne 19, 3) := by decide +kernel
theorem dX7_moves_50 : decode cX7_moves 50 = .ok (.aload_n 0, 1) := by decide +kernel
theorem dX7_moves_51 : decode cX7_moves 51 = .ok (.getfield 7, 3) := by decide +kernel
theorem dX7_moves_54 : decode cX7_moves 54 = .ok (.sipush 134, 3) := by decide +kernel
theorem dX7_moves_57 : decode cX7_moves 57 = .ok (.dup2, 1) := by decide +kernel
theorem dX7_moves_58 : decode cX7_moves 58 = .ok (.iaload, 1) := by decide +kernel
theorem dX7_moves_59 : decode cX7_moves 59 = .ok (.iload 5, 2) := by decide +kernel
theorem dX7_moves_61 : decode cX7_moves 61 = .ok (.iadd, 1) := by decide +kernel
theorem dX7_moves_62 : decode cX7_moves 62 = .ok (.iastore, 1) := by decide +kernel
theorem dX7_moves_63 : decode cX7_moves 63 = .ok (.goto 46, 3) := by decide +kernel
theorem dX7_moves_66 : decode cX7_moves 66 = .ok (.bipush 99, 2) := by decide +kernel
theorem dX7_moves_68 : decode cX7_moves 68 = .ok (.aload_n 0, 1) := by decide +kernel
theorem dX7_moves_69 : decode cX7_moves 69 = .ok (.iload_n 1, 1) := by decide +kernel
theorem dX7_moves_70 : decode cX7_moves 70 = .ok (.iload_n 3, 1) := by decide +kernel
theorem dX7_moves_71 : decode cX7_moves 71 = .ok (.invokevirtual 52, 3) := by decide +kernel
theorem dX7_moves_74 : decode cX7_moves 74 = .ok (.isub, 1) := by decide +kernel
theorem dX7_moves_75 : decode cX7_moves 75 = .ok (.istore 6, 2) := by decide +kernel
theorem dX7_moves_77 : decode cX7_moves 77 = .ok (.iload 5, 2) := by decide +kernel
theorem dX7_moves_79 : decode cX7_moves 79 = .ok (.iload 6, 2) := by decide +kernel
theorem dX7_moves_81 : decode cX7_moves 81 = .ok (.if_icmp .ge 8, 3) := by decide +kernel
theorem dX7_moves_84 : decode cX7_moves 84 = .ok (.iload 5, 2) := by decide +kernel
theorem dX7_moves_86 : decode cX7_moves 86 = .ok (.goto 5, 3) := by decide +kernel
theorem dX7_moves_89 : decode cX7_moves 89 = .ok (.iload 6, 2) := by decide +kernel
theorem dX7_moves_91 : decode cX7_moves 91 = .ok (.istore 5, 2) := by decide +kernel
theorem dX7_moves_93 : decode cX7_moves 93 = .ok (.aload_n 0, 1) := by decide +kernel
theorem dX7_moves_94 : decode cX7_moves 94 = .ok (.getfield 7, 3) := by decide +kernel
theorem dX7_moves_97 : decode cX7_moves 97 = .ok (.bipush 20, 2) := by decide +kernel
theorem dX7_moves_99 : decode cX7_moves 99 = .ok (.iload_n 1, 1) := by decide +kernel
theorem dX7_moves_100 : decode cX7_moves 100 = .ok (.imul, 1) := by decide +kernel
theorem dX7_moves_101 : decode cX7_moves 101 = .ok (.iload_n 3, 1) := by decide +kernel
theorem dX7_moves_102 : decode cX7_moves 102 = .ok (.iadd, 1) := by decide +kernel
theorem dX7_moves_103 : decode cX7_moves 103 = .ok (.dup2, 1) := by decide +kernel
theorem dX7_moves_104 : decode cX7_moves 104 = .ok (.iaload, 1) := by decide +kernel
theorem dX7_moves_105 : decode cX7_moves 105 = .ok (.iload 5, 2) := by decide +kernel
theorem dX7_moves_107 : decode cX7_moves 107 = .ok (.iadd, 1) := by decide +kernel
theorem dX7_moves_108 : decode cX7_moves 108 = .ok (.iastore, 1) := by decide +kernel
theorem dX7_moves_109 : decode cX7_moves 109 = .ok (.aload_n 0, 1) := by decide +kernel
theorem dX7_moves_110 : decode cX7_moves 110 = .ok (.getfield 7, 3) := by decide +kernel
theorem dX7_moves_113 : decode cX7_moves 113 = .ok (.bipush 20, 2) := by decide +kernel
theorem dX7_moves_115 : decode cX7_moves 115 = .ok (.iload_n 1, 1) := by decide +kernel
theorem dX7_moves_116 : decode cX7_moves 116 = .ok (.imul, 1) := by decide +kernel
theorem dX7_moves_117 : decode cX7_moves 117 = .ok (.iload_n 2, 1) := by decide +kernel
theorem dX7_moves_118 : decode cX7_moves 118 = .ok (.iadd, 1) := by decide +kernel
theorem dX7_moves_119 : decode cX7_moves 119 = .ok (.dup2, 1) := by decide +kernel
theorem dX7_moves_120 : decode cX7_moves 120 = .ok (.iaload, 1) := by decide +kernel
theorem dX7_moves_121 : decode cX7_moves 121 = .ok (.iload 5, 2) := by decide +kernel
theorem dX7_moves_123 : decode cX7_moves 123 = .ok (.isub, 1) := by decide +kernel
theorem dX7_moves_124 : decode cX7_moves 124 = .ok (.iastore, 1) := by decide +kernel
theorem dX7_moves_125 : decode cX7_moves 125 = .ok (.iload 5, 2) := by decide +kernel
theorem dX7_moves_127 : decode cX7_moves 127 = .ok (.ireturn, 1) := by decide +kernel
theorem dX7_runs_0 : decode cX7_runs 0 = .ok (.iload_n 2, 1) := by decide +kernel
theorem dX7_runs_1 : decode cX7_runs 1 = .ok (.istore_n 3, 1) := by decide +kernel
theorem dX7_runs_2 : decode cX7_runs 2 = .ok (.bipush 19, 2) := by decide +kernel
theorem dX7_runs_4 : decode cX7_runs 4 = .ok (.istore 4, 2) := by decide +kernel
theorem dX7_runs_6 : decode cX7_runs 6 = .ok (.iload_n 2, 1) := by decide +kernel
theorem dX7_runs_7 : decode cX7_runs 7 = .ok (.aload_n 0, 1) := by decide +kernel
theorem dX7_runs_8 : decode cX7_runs 8 = .ok (.getfield 7, 3) := by decide +kernel
theorem dX7_runs_11 : decode cX7_runs 11 = .ok (.bipush 81, 2) := by decide +kernel
theorem dX7_runs_13 : decode cX7_runs 13 = .ok (.iaload, 1) := by decide +kernel
theorem dX7_runs_14 : decode cX7_runs 14 = .ok (.if_icmp .lt 7, 3) := by decide +kernel
theorem dX7_runs_17 : decode cX7_runs 17 = .ok (.iconst 1, 1) := by decide +kernel
theorem dX7_runs_18 : decode cX7_runs 18 = .ok (.goto 4, 3) := by decide +kernel
theorem dX7_runs_21 : decode cX7_runs 21 = .ok (.iconst 0, 1) := by decide +kernel
theorem dX7_runs_22 : decode cX7_runs 22 = .ok (.istore 5, 2) := by decide +kernel
theorem dX7_runs_24 : decode cX7_runs 24 = .ok (.aload_n 0, 1) := by decide +kernel
theorem dX7_runs_25 : decode cX7_runs 25 = .ok (.getfield 22, 3) := by decide +kernel
theorem dX7_runs_28 : decode cX7_runs 28 = .ok (.iconst 0, 1) := by decide +kernel
theorem dX7_runs_29 : decode cX7_runs 29 = .ok (.iload_n 1, 1) := by decide +kernel
theorem dX7_runs_30 : decode cX7_runs 30 = .ok (.iastore, 1) := by decide +kernel
theorem dX7_runs_31 : decode cX7_runs 31 = .ok (.aload_n 0, 1) := by decide +kernel
theorem dX7_runs_32 : decode cX7_runs 32 = .ok (.getfield 22, 3) := by decide +kernel
theorem dX7_runs_35 : decode cX7_runs 35 = .ok (.iconst 1, 1) := by decide +kernel
theorem dX7_runs_36 : decode cX7_runs 36 = .ok (.iload_n 2, 1) := by decide +kernel
theorem dX7_runs_37 : decode cX7_runs 37 = .ok (.iastore, 1) := by decide +kernel
theorem dX7_runs_38 : decode cX7_runs 38 = .ok (.aload_n 0, 1) := by decide +kernel
theorem dX7_runs_39 : decode cX7_runs 39 = .ok (.getfield 22, 3) := by decide +kernel
theorem dX7_runs_42 : decode cX7_runs 42 = .ok (.iconst 2, 1) := by decide +kernel
theorem dX7_runs_43 : decode cX7_runs 43 = .ok (.sipush (-1005), 3) := by decide +kernel
theorem dX7_runs_46 : decode cX7_runs 46 = .ok (.iastore, 1) := by decide +kernel
theorem dX7_runs_47 : decode cX7_runs 47 = .ok (.aload_n 0, 1) := by decide +kernel
theorem dX7_runs_48 : decode cX7_runs 48 = .ok (.getfield 22, 3) := by decide +kernel
theorem dX7_runs_51 : decode cX7_runs 51 = .ok (.iconst 4, 1) := by decide +kernel
theorem dX7_runs_52 : decode cX7_runs 52 = .ok (.iconst 0, 1) := by decide +kernel
theorem dX7_runs_53 : decode cX7_runs 53 = .ok (.iastore, 1) := by decide +kernel
theorem dX7_runs_54 : decode cX7_runs 54 = .ok (.aload_n 0, 1) := by decide +kernel
theorem dX7_runs_55 : decode cX7_runs 55 = .ok (.getfield 22, 3) := by decide +kernel
theorem dX7_runs_58 : decode cX7_runs 58 = .ok (.iconst 5, 1) := by decide +kernel
theorem dX7_runs_59 : decode cX7_runs 59 = .ok (.iconst 0, 1) := by decide +kernel
theorem dX7_runs_60 : decode cX7_runs 60 = .ok (.iastore, 1) := by decide +kernel
theorem dX7_runs_61 : decode cX7_runs 61 = .ok (.aload_n 0, 1) := by decide +kernel
theorem dX7_runs_62 : decode cX7_runs 62 = .ok (.getfield 22, 3) := by decide +kernel
theorem dX7_runs_65 : decode cX7_runs 65 = .ok (.bipush 6, 2) := by decide +kernel
theorem dX7_runs_67 : decode cX7_runs 67 = .ok (.iconst 0, 1) := by decide +kernel
theorem dX7_runs_68 : decode cX7_runs 68 = .ok (.iastore, 1) := by decide +kernel
theorem dX7_runs_69 : decode cX7_runs 69 = .ok (.iload 4, 2) := by decide +kernel
theorem dX7_runs_71 : decode cX7_runs 71 = .ok (.ifCond .lt 161, 3) := by decide +kernel
theorem dX7_runs_74 : decode cX7_runs 74 = .ok (.aload_n 0, 1) := by decide +kernel
theorem dX7_runs_75 : decode cX7_runs 75 = .ok (.getfield 22, 3) := by decide +kernel
theorem dX7_runs_78 : decode cX7_runs 78 = .ok (.iconst 4, 1) := by decide +kernel
theorem dX7_runs_79 : decode cX7_runs 79 = .ok (.iaload, 1) := by decide +kernel
theorem dX7_runs_80 : decode cX7_runs 80 = .ok (.ifCond .ne 152, 3) := by decide +kernel
theorem dX7_runs_83 : decode cX7_runs 83 = .ok (.aload_n 0, 1) := by decide +kernel
theorem dX7_runs_84 : decode cX7_runs 84 = .ok (.iload_n 1, 1) := by decide +kernel
theorem dX7_runs_85 : decode cX7_runs 85 = .ok (.iload 4, 2) := by decide +kernel
theorem dX7_runs_87 : decode cX7_runs 87 = .ok (.invokevirtual 61, 3) := by decide +kernel
theorem dX7_runs_90 : decode cX7_runs 90 = .ok (.ifCond .eq 13, 3) := by decide +kernel
theorem dX7_runs_93 : decode cX7_runs 93 = .ok (.aload_n 0, 1) := by decide +kernel
theorem dX7_runs_94 : decode cX7_runs 94 = .ok (.getfield 22, 3) := by decide +kernel
theorem dX7_runs_97 : decode cX7_runs 97 = .ok (.iconst 4, 1) := by decide +kernel
theorem dX7_runs_98 : decode cX7_runs 98 = .ok (.iconst 1, 1) := by decide +kernel
theorem dX7_runs_99 : decode cX7_runs 99 = .ok (.iastore, 1) := by decide +kernel
theorem dX7_runs_100 : decode cX7_runs 100 = .ok (.goto 110, 3) := by decide +kernel
theorem dX7_runs_103 : decode cX7_runs 103 = .ok (.aload_n 0, 1) := by decide +kernel
theorem dX7_runs_104 : decode cX7_runs 104 = .ok (.iload_n 1, 1) := by decide +kernel
theorem dX7_runs_105 : decode cX7_runs 105 = .ok (.iload 4, 2) := by decide +kernel
theorem dX7_runs_107 : decode cX7_runs 107 = .ok (.invokevirtual 56, 3) := by decide +kernel
theorem dX7_runs_110 : decode cX7_runs 110 = .ok (.iload_n 3, 1) := by decide +kernel
theorem dX7_runs_111 : decode cX7_runs 111 = .ok (.if_icmp .ge 99, 3) := by decide +kernel
theorem dX7_runs_114 : decode cX7_runs 114 = .ok (.aload_n 0, 1) := by decide +kernel
theorem dX7_runs_115 : decode cX7_runs 115 = .ok (.getfield 22, 3) := by decide +kernel
theorem dX7_runs_118 : decode cX7_runs 118 = .ok (.iconst 2, 1) := by decide +kernel
theorem dX7_runs_119 : decode cX7_runs 119 = .ok (.aload_n 0, 1) := by decide +kernel
theorem dX7_runs_120 : decode cX7_runs 120 = .ok (.getfield 22, 3) := by decide +kernel
theorem dX7_runs_123 : decode cX7_runs 123 = .ok (.iconst 2, 1) := by decide +kernel
theorem dX7_runs_124 : decode cX7_runs 124 = .ok (.iaload, 1) := by decide +kernel
theorem dX7_runs_125 : decode cX7_runs 125 = .ok (.sipush (-1005), 3) := by decide +kernel
theorem dX7_runs_128 : decode cX7_runs 128 = .ok (.if_icmp .ne 8, 3) := by decide +kernel
theorem dX7_runs_131 : decode cX7_runs 131 = .ok (.iload 4, 2) := by decide +kernel
theorem dX7_runs_133 : decode cX7_runs 133 = .ok (.goto 9, 3) := by decide +kernel
theorem dX7_runs_136 : decode cX7_runs 136 = .ok (.aload_n 0, 1) := by decide +kernel
theorem dX7_runs_137 : decode cX7_runs 137 = .ok (.getfield 22, 3) := by decide +kernel
theorem dX7_runs_140 : decode cX7_runs 140 = .ok (.iconst 2, 1) := by decide +kernel
theorem dX7_runs_141 : decode cX7_runs 141 = .ok (.iaload, 1) := by decide +kernel
theorem dX7_runs_142 : decode cX7_runs 142 = .ok (.iastore, 1) := by decide +kernel
theorem dX7_runs_143 : decode cX7_runs 143 = .ok (.aload_n 0, 1) := by decide +kernel
theorem dX7_runs_144 : decode cX7_runs 144 = .ok (.getfield 22, 3) := by decide +kernel
theorem dX7_runs_147 : decode cX7_runs 147 = .ok (.iconst 5, 1) := by decide +kernel
theorem dX7_runs_148 : decode cX7_runs 148 = .ok (.dup2, 1) := by decide +kernel
theorem dX7_runs_149 : decode cX7_runs 149 = .ok (.iaload, 1) := by decide +kernel
theorem dX7_runs_150 : decode cX7_runs 150 = .ok (.iconst 1, 1) := by decide +kernel
theorem dX7_runs_151 : decode cX7_runs 151 = .ok (.iadd, 1) := by decide +kernel
theorem dX7_runs_152 : decode cX7_runs 152 = .ok (.iastore, 1) := by decide +kernel
theorem dX7_runs_153 : decode cX7_runs 153 = .ok (.aload_n 0, 1) := by decide +kernel
theorem dX7_runs_154 : decode cX7_runs 154 = .ok (.getfield 22, 3) := by decide +kernel
theorem dX7_runs_157 : decode cX7_runs 157 = .ok (.bipush 6, 2) := by decide +kernel
theorem dX7_runs_159 : decode cX7_runs 159 = .ok (.dup2, 1) := by decide +kernel
theorem dX7_runs_160 : decode cX7_runs 160 = .ok (.iaload, 1) := by decide +kernel
theorem dX7_runs_161 : decode cX7_runs 161 = .ok (.aload_n 0, 1) := by decide +kernel
theorem dX7_runs_162 : decode cX7_runs 162 = .ok (.iload_n 1, 1) := by decide +kernel
theorem dX7_runs_163 : decode cX7_runs 163 = .ok (.iload 4, 2) := by decide +kernel
theorem dX7_runs_165 : decode cX7_runs 165 = .ok (.iload 5, 2) := by decide +kernel
theorem dX7_runs_167 : decode cX7_runs 167 = .ok (.ifCond .eq 10, 3) := by decide +kernel
theorem dX7_runs_170 : decode cX7_runs 170 = .ok (.iload 4, 2) := by decide +kernel
theorem dX7_runs_172 : decode cX7_runs 172 = .ok (.iconst 1, 1) := by decide +kernel
theorem dX7_runs_173 : decode cX7_runs 173 = .ok (.iadd, 1) := by decide +kernel
theorem dX7_runs_174 : decode cX7_runs 174 = .ok (.goto 7, 3) := by decide +kernel
theorem dX7_runs_177 : decode cX7_runs 177 = .ok (.iload 4, 2) := by decide +kernel
theorem dX7_runs_179 : decode cX7_runs 179 = .ok (.iconst 1, 1) := by decide +kernel
theorem dX7_runs_180 : decode cX7_runs 180 = .ok (.isub, 1) := by decide +kernel
theorem dX7_runs_181 : decode cX7_runs 181 = .ok (.iconst 1, 1) := by decide +kernel
theorem dX7_runs_182 : decode cX7_runs 182 = .ok (.iload_n 3, 1) := by decide +kernel
theorem dX7_runs_183 : decode cX7_runs 183 = .ok (.iconst 5, 1) := by decide +kernel
theorem dX7_runs_184 : decode cX7_runs 184 = .ok (.idiv, 1) := by decide +kernel
theorem dX7_runs_185 : decode cX7_runs 185 = .ok (.iadd, 1) := by decide +kernel
theorem dX7_runs_186 : decode cX7_runs 186 = .ok (.invokevirtual 76, 3) := by decide +kernel
theorem dX7_runs_189 : decode cX7_runs 189 = .ok (.iadd, 1) := by decide +kernel
theorem dX7_runs_190 : decode cX7_runs 190 = .ok (.iastore, 1) := by decide +kernel
theorem dX7_runs_191 : decode cX7_runs 191 = .ok (.iload_n 3, 1) := by decide +kernel
theorem dX7_runs_192 : decode cX7_runs 192 = .ok (.iconst 2, 1) := by decide +kernel
theorem dX7_runs_193 : decode cX7_runs 193 = .ok (.idiv, 1) := by decide +kernel
theorem dX7_runs_194 : decode cX7_runs 194 = .ok (.istore_n 3, 1) := by decide +kernel
theorem dX7_runs_195 : decode cX7_runs 195 = .ok (.aload_n 0, 1) := by decide +kernel
theorem dX7_runs_196 : decode cX7_runs 196 = .ok (.getfield 22, 3) := by decide +kernel
theorem dX7_runs_199 : decode cX7_runs 199 = .ok (.iconst 4, 1) := by decide +kernel
theorem dX7_runs_200 : decode cX7_runs 200 = .ok (.iload_n 3, 1) := by decide +kernel
theorem dX7_runs_201 : decode cX7_runs 201 = .ok (.ifCond .ne 7, 3) := by decide +kernel
theorem dX7_runs_204 : decode cX7_runs 204 = .ok (.iconst 2, 1) := by decide +kernel
theorem dX7_runs_205 : decode cX7_runs 205 = .ok (.goto 4, 3) := by decide +kernel
theorem dX7_runs_208 : decode cX7_runs 208 = .ok (.iconst 0, 1) := by decide +kernel
theorem dX7_runs_209 : decode cX7_runs 209 = .ok (.iastore, 1) := by decide +kernel
theorem dX7_runs_210 : decode cX7_runs 210 = .ok (.iload 4, 2) := by decide +kernel
theorem dX7_runs_212 : decode cX7_runs 212 = .ok (.aload_n 0, 1) := by decide +kernel
theorem dX7_runs_213 : decode cX7_runs 213 = .ok (.getfield 22, 3) := by decide +kernel
theorem dX7_runs_216 : decode cX7_runs 216 = .ok (.iconst 4, 1) := by decide +kernel
theorem dX7_runs_217 : decode cX7_runs 217 = .ok (.iaload, 1) := by decide +kernel
theorem dX7_runs_218 : decode cX7_runs 218 = .ok (.ifCond .ne 7, 3) := by decide +kernel
theorem dX7_runs_221 : decode cX7_runs 221 = .ok (.iconst 1, 1) := by decide +kernel
theorem dX7_runs_222 : decode cX7_runs 222 = .ok (.goto 4, 3) := by decide +kernel
theorem dX7_runs_225 : decode cX7_runs 225 = .ok (.iconst 0, 1) := by decide +kernel
theorem dX7_runs_226 : decode cX7_runs 226 = .ok (.isub, 1) := by decide +kernel
theorem dX7_runs_227 : decode cX7_runs 227 = .ok (.istore 4, 2) := by decide +kernel
theorem dX7_runs_229 : decode cX7_runs 229 = .ok (.goto (-160), 3) := by decide +kernel
theorem dX7_runs_232 : decode cX7_runs 232 = .ok (.aload_n 0, 1) := by decide +kernel
theorem dX7_runs_233 : decode cX7_runs 233 = .ok (.getfield 22, 3) := by decide +kernel
theorem dX7_runs_236 : decode cX7_runs 236 = .ok (.iconst 3, 1) := by decide +kernel
theorem dX7_runs_237 : decode cX7_runs 237 = .ok (.iload 4, 2) := by decide +kernel
theorem dX7_runs_239 : decode cX7_runs 239 = .ok (.iastore, 1) := by decide +kernel
theorem dX7_runs_240 : decode cX7_runs 240 = .ok (.aload_n 0, 1) := by decide +kernel
theorem dX7_runs_241 : decode cX7_runs 241 = .ok (.getfield 22, 3) := by decide +kernel
theorem dX7_runs_244 : decode cX7_runs 244 = .ok (.iconst 4, 1) := by decide +kernel
theorem dX7_runs_245 : decode cX7_runs 245 = .ok (.aload_n 0, 1) := by decide +kernel
theorem dX7_runs_246 : decode cX7_runs 246 = .ok (.getfield 22, 3) := by decide +kernel
theorem dX7_runs_249 : decode cX7_runs 249 = .ok (.iconst 4, 1) := by decide +kernel
theorem dX7_runs_250 : decode cX7_runs 250 = .ok (.iaload, 1) := by decide +kernel
theorem dX7_runs_251 : decode cX7_runs 251 = .ok (.ifCond .ne 7, 3) := by decide +kernel
theorem dX7_runs_254 : decode cX7_runs 254 = .ok (.iconst 3, 1) := by decide +kernel
theorem dX7_runs_255 : decode cX7_runs 255 = .ok (.goto 9, 3) := by decide +kernel
theorem dX7_runs_258 : decode cX7_runs 258 = .ok (.aload_n 0, 1) := by decide +kernel
theorem dX7_runs_259 : decode cX7_runs 259 = .ok (.getfield 22, 3) := by decide +kernel
theorem dX7_runs_262 : decode cX7_runs 262 = .ok (.iconst 4, 1) := by decide +kernel
theorem dX7_runs_263 : decode cX7_runs 263 = .ok (.iaload, 1) := by decide +kernel
theorem dX7_runs_264 : decode cX7_runs 264 = .ok (.iastore, 1) := by decide +kernel
theorem dX7_runs_265 : decode cX7_runs 265 = .ok (.return_, 1) := by decide +kernel
theorem dX7_runsAhead_0 : decode cX7_runsAhead 0 = .ok (.aload_n 0, 1) := by decide +kernel
theorem dX7_runsAhead_1 : decode cX7_runsAhead 1 = .ok (.getfield 7, 3) := by decide +kernel
theorem dX7_runsAhead_4 : decode cX7_runsAhead 4 = .ok (.bipush 86, 2) := by decide +kernel
theorem dX7_runsAhead_6 : decode cX7_runsAhead 6 = .ok (.iconst 2, 1) := by decide +kernel
theorem dX7_runsAhead_7 : decode cX7_runsAhead 7 = .ok (.iload_n 1, 1) := by decide +kernel
theorem dX7_runsAhead_8 : decode cX7_runsAhead 8 = .ok (.imul, 1) := by decide +kernel
theorem dX7_runsAhead_9 : decode cX7_runsAhead 9 = .ok (.iadd, 1) := by decide +kernel
theorem dX7_runsAhead_10 : decode cX7_runsAhead 10 = .ok (.iconst 1, 1) := by decide +kernel
theorem dX7_runsAhead_11 : decode cX7_runsAhead 11 = .ok (.iadd, 1) := by decide +kernel
theorem dX7_runsAhead_12 : decode cX7_runsAhead 12 = .ok (.iaload, 1) := by decide +kernel
theorem dX7_runsAhead_13 : decode cX7_runsAhead 13 = .ok (.aload_n 0, 1) := by decide +kernel
theorem dX7_runsAhead_14 : decode cX7_runsAhead 14 = .ok (.getfield 7, 3) := by decide +kernel
theorem dX7_runsAhead_17 : decode cX7_runsAhead 17 = .ok (.bipush 86, 2) := by decide +kernel
theorem dX7_runsAhead_19 : decode cX7_runsAhead 19 = .ok (.iconst 2, 1) := by decide +kernel
theorem dX7_runsAhead_20 : decode cX7_runsAhead 20 = .ok (.iload_n 2, 1) := by decide +kernel
theorem dX7_runsAhead_21 : decode cX7_runsAhead 21 = .ok (.imul, 1) := by decide +kernel
theorem dX7_runsAhead_22 : decode cX7_runsAhead 22 = .ok (.iadd, 1) := by decide +kernel
theorem dX7_runsAhead_23 : decode cX7_runsAhead 23 = .ok (.iconst 1, 1) := by decide +kernel
theorem dX7_runsAhead_24 : decode cX7_runsAhead 24 = .ok (.iadd, 1) := by decide +kernel
theorem dX7_runsAhead_25 : decode cX7_runsAhead 25 = .ok (.iaload, 1) := by decide +kernel
theorem dX7_runsAhead_26 : decode cX7_runsAhead 26 = .ok (.isub, 1) := by decide +kernel
theorem dX7_runsAhead_27 : decode cX7_runsAhead 27 = .ok (.istore_n 3, 1) := by decide +kernel
theorem dX7_runsAhead_28 : decode cX7_runsAhead 28 = .ok (.aload_n 0, 1) := by decide +kernel
theorem dX7_runsAhead_29 : decode cX7_runsAhead 29 = .ok (.getfield 7, 3) := by decide +kernel
theorem dX7_runsAhead_32 : decode cX7_runsAhead 32 = .ok (.bipush 82, 2) := by decide +kernel
theorem dX7_runsAhead_34 : decode cX7_runsAhead 34 = .ok (.iaload, 1) := by decide +kernel
theorem dX7_runsAhead_35 : decode cX7_runsAhead 35 = .ok (.iconst 1, 1) := by decide +kernel
theorem dX7_runsAhead_36 : decode cX7_runsAhead 36 = .ok (.if_icmp .ne 15, 3) := by decide +kernel
theorem dX7_runsAhead_39 : decode cX7_runsAhead 39 = .ok (.iload_n 3, 1) := by decide +kernel
theorem dX7_runsAhead_40 : decode cX7_runsAhead 40 = .ok (.ifCond .le 7, 3) := by decide +kernel
theorem dX7_runsAhead_43 : decode cX7_runsAhead 43 = .ok (.iconst 1, 1) := by decide +kernel
theorem dX7_runsAhead_44 : decode cX7_runsAhead 44 = .ok (.goto 27, 3) := by decide +kernel
theorem dX7_runsAhead_47 : decode cX7_runsAhead 47 = .ok (.iconst 0, 1) := by decide +kernel
theorem dX7_runsAhead_48 : decode cX7_runsAhead 48 = .ok (.goto 23, 3) := by decide +kernel
theorem dX7_runsAhead_51 : decode cX7_runsAhead 51 = .ok (.aload_n 0, 1) := by decide +kernel
theorem dX7_runsAhead_52 : decode cX7_runsAhead 52 = .ok (.getfield 7, 3) := by decide +kernel
theorem dX7_runsAhead_55 : decode cX7_runsAhead 55 = .ok (.bipush 82, 2) := by decide +kernel
theorem dX7_runsAhead_57 : decode cX7_runsAhead 57 = .ok (.iaload, 1) := by decide +kernel
theorem dX7_runsAhead_58 : decode cX7_runsAhead 58 = .ok (.iconst 2, 1) := by decide +kernel
theorem dX7_runsAhead_59 : decode cX7_runsAhead 59 = .ok (.if_icmp .ne 11, 3) := by decide +kernel
theorem dX7_runsAhead_62 : decode cX7_runsAhead 62 = .ok (.iload_n 3, 1) := by decide +kernel
theorem dX7_runsAhead_63 : decode cX7_runsAhead 63 = .ok (.ifCond .ge 7, 3) := by decide +kernel
theorem dX7_runsAhead_66 : decode cX7_runsAhead 66 = .ok (.iconst 1, 1) := by decide +kernel
theorem dX7_runsAhead_67 : decode cX7_runsAhead 67 = .ok (.goto 4, 3) := by decide +kernel
theorem dX7_runsAhead_70 : decode cX7_runsAhead 70 = .ok (.iconst 0, 1) := by decide +kernel
theorem dX7_runsAhead_71 : decode cX7_runsAhead 71 = .ok (.ireturn, 1) := by decide +kernel
theorem dX7_sorts_0 : decode cX7_sorts 0 = .ok (.iconst 0, 1) := by decide +kernel
theorem dX7_sorts_1 : decode cX7_sorts 1 = .ok (.istore_n 1, 1) := by decide +kernel
theorem dX7_sorts_2 : decode cX7_sorts 2 = .ok (.iload_n 1, 1) := by decide +kernel
theorem dX7_sorts_3 : decode cX7_sorts 3 = .ok (.aload_n 0, 1) := by decide +kernel
theorem dX7_sorts_4 : decode cX7_sorts 4 = .ok (.getfield 7, 3) := by decide +kernel
theorem dX7_sorts_7 : decode cX7_sorts 7 = .ok (.bipush 85, 2) := by decide +kernel
theorem dX7_sorts_9 : decode cX7_sorts 9 = .ok (.iaload, 1) := by decide +kernel
theorem dX7_sorts_10 : decode cX7_sorts 10 = .ok (.if_icmp .ge 58, 3) := by decide +kernel
theorem dX7_sorts_13 : decode cX7_sorts 13 = .ok (.iload_n 1, 1) := by decide +kernel
theorem dX7_sorts_14 : decode cX7_sorts 14 = .ok (.istore_n 2, 1) := by decide +kernel
theorem dX7_sorts_15 : decode cX7_sorts 15 = .ok (.iload_n 2, 1) := by decide +kernel
theorem dX7_sorts_16 : decode cX7_sorts 16 = .ok (.ifCond .le 39, 3) := by decide +kernel
theorem dX7_sorts_19 : decode cX7_sorts 19 = .ok (.aload_n 0, 1) := by decide +kernel
theorem dX7_sorts_20 : decode cX7_sorts 20 = .ok (.iload_n 1, 1) := by decide +kernel
theorem dX7_sorts_21 : decode cX7_sorts 21 = .ok (.aload_n 0, 1) := by decide +kernel
theorem dX7_sorts_22 : decode cX7_sorts 22 = .ok (.getfield 25, 3) := by decide +kernel
theorem dX7_sorts_25 : decode cX7_sorts 25 = .ok (.iload_n 2, 1) := by decide +kernel
theorem dX7_sorts_26 : decode cX7_sorts 26 = .ok (.iconst 1, 1) := by decide +kernel
theorem dX7_sorts_27 : decode cX7_sorts 27 = .ok (.isub, 1) := by decide +kernel
theorem dX7_sorts_28 : decode cX7_sorts 28 = .ok (.iaload, 1) := by decide +kernel
theorem dX7_sorts_29 : decode cX7_sorts 29 = .ok (.invokevirtual 80, 3) := by decide +kernel
theorem dX7_sorts_32 : decode cX7_sorts 32 = .ok (.ifCond .eq 23, 3) := by decide +kernel
theorem dX7_sorts_35 : decode cX7_sorts 35 = .ok (.aload_n 0, 1) := by decide +kernel
theorem dX7_sorts_36 : decode cX7_sorts 36 = .ok (.getfield 25, 3) := by decide +kernel
theorem dX7_sorts_39 : decode cX7_sorts 39 = .ok (.iload_n 2, 1) := by decide +kernel
theorem dX7_sorts_40 : decode cX7_sorts 40 = .ok (.aload_n 0, 1) := by decide +kernel
theorem dX7_sorts_41 : decode cX7_sorts 41 = .ok (.getfield 25, 3) := by decide +kernel
theorem dX7_sorts_44 : decode cX7_sorts 44 = .ok (.iload_n 2, 1) := by decide +kernel
theorem dX7_sorts_45 : decode cX7_sorts 45 = .ok (.iconst 1, 1) := by decide +kernel
theorem dX7_sorts_46 : decode cX7_sorts 46 = .ok (.isub, 1) := by decide +kernel
theorem dX7_sorts_47 : decode cX7_sorts 47 = .ok (.iaload, 1) := by decide +kernel
theorem dX7_sorts_48 : decode cX7_sorts 48 = .ok (.iastore, 1) := by decide +kernel
theorem dX7_sorts_49 : decode cX7_sorts 49 = .ok (.iinc 2 (-1), 3) := by decide +kernel
theorem dX7_sorts_52 : decode cX7_sorts 52 = .ok (.goto (-37), 3) := by decide +kernel
theorem dX7_sorts_55 : decode cX7_sorts 55 = .ok (.aload_n 0, 1) := by decide +kernel
theorem dX7_sorts_56 : decode cX7_sorts 56 = .ok (.getfield 25, 3) := by decide +kernel
theorem dX7_sorts_59 : decode cX7_sorts 59 = .ok (.iload_n 2, 1) := by decide +kernel
theorem dX7_sorts_60 : decode cX7_sorts 60 = .ok (.iload_n 1, 1) := by decide +kernel
theorem dX7_sorts_61 : decode cX7_sorts 61 = .ok (.iastore, 1) := by decide +kernel
theorem dX7_sorts_62 : decode cX7_sorts 62 = .ok (.iinc 1 1, 3) := by decide +kernel
theorem dX7_sorts_65 : decode cX7_sorts 65 = .ok (.goto (-63), 3) := by decide +kernel
theorem dX7_sorts_68 : decode cX7_sorts 68 = .ok (.return_, 1) := by decide +kernel
theorem dX7_allRun_0 : decode cX7_allRun 0 = .ok (.iconst 0, 1) := by decide +kernel
theorem dX7_allRun_1 : decode cX7_allRun 1 = .ok (.istore_n 1, 1) := by decide +kernel
theorem dX7_allRun_2 : decode cX7_allRun 2 = .ok (.aload_n 0, 1) := by decide +kernel
theorem dX7_allRun_3 : decode cX7_allRun 3 = .ok (.invokevirtual 83, 3) := by decide +kernel
theorem dX7_allRun_6 : decode cX7_allRun 6 = .ok (.aload_n 0, 1) := by decide +kernel
theorem dX7_allRun_7 : decode cX7_allRun 7 = .ok (.getfield 7, 3) := by decide +kernel
theorem dX7_allRun_10 : decode cX7_allRun 10 = .ok (.sipush 142, 3) := by decide +kernel
theorem dX7_allRun_13 : decode cX7_allRun 13 = .ok (.aload_n 0, 1) := by decide +kernel
theorem dX7_allRun_14 : decode cX7_allRun 14 = .ok (.getfield 7, 3) := by decide +kernel
theorem dX7_allRun_17 : decode cX7_allRun 17 = .ok (.bipush 85, 2) := by decide +kernel
theorem dX7_allRun_19 : decode cX7_allRun 19 = .ok (.iaload, 1) := by decide +kernel
theorem dX7_allRun_20 : decode cX7_allRun 20 = .ok (.iastore, 1) := by decide +kernel
theorem dX7_allRun_21 : decode cX7_allRun 21 = .ok (.iconst 0, 1) := by decide +kernel
theorem dX7_allRun_22 : decode cX7_allRun 22 = .ok (.istore_n 2, 1) := by decide +kernel
theorem dX7_allRun_23 : decode cX7_allRun 23 = .ok (.iload_n 2, 1) := by decide +kernel
theorem dX7_allRun_24 : decode cX7_allRun 24 = .ok (.aload_n 0, 1) := by decide +kernel
theorem dX7_allRun_25 : decode cX7_allRun 25 = .ok (.getfield 7, 3) := by decide +kernel
theorem dX7_allRun_28 : decode cX7_allRun 28 = .ok (.bipush 85, 2) := by decide +kernel
theorem dX7_allRun_30 : decode cX7_allRun 30 = .ok (.iaload, 1) := by decide +kernel
theorem dX7_allRun_31 : decode cX7_allRun 31 = .ok (.if_icmp .ge 92, 3) := by decide +kernel
theorem dX7_allRun_34 : decode cX7_allRun 34 = .ok (.aload_n 0, 1) := by decide +kernel
theorem dX7_allRun_35 : decode cX7_allRun 35 = .ok (.getfield 25, 3) := by decide +kernel
theorem dX7_allRun_38 : decode cX7_allRun 38 = .ok (.iload_n 2, 1) := by decide +kernel
theorem dX7_allRun_39 : decode cX7_allRun 39 = .ok (.iaload, 1) := by decide +kernel
theorem dX7_allRun_40 : decode cX7_allRun 40 = .ok (.istore_n 3, 1) := by decide +kernel
theorem dX7_allRun_41 : decode cX7_allRun 41 = .ok (.aload_n 0, 1) := by decide +kernel
theorem dX7_allRun_42 : decode cX7_allRun 42 = .ok (.aload_n 0, 1) := by decide +kernel
theorem dX7_allRun_43 : decode cX7_allRun 43 = .ok (.getfield 7, 3) := by decide +kernel
theorem dX7_allRun_46 : decode cX7_allRun 46 = .ok (.bipush 86, 2) := by decide +kernel
theorem dX7_allRun_48 : decode cX7_allRun 48 = .ok (.iconst 2, 1) := by decide +kernel
theorem dX7_allRun_49 : decode cX7_allRun 49 = .ok (.iload_n 3, 1) := by decide +kernel
theorem dX7_allRun_50 : decode cX7_allRun 50 = .ok (.imul, 1) := by decide +kernel
theorem dX7_allRun_51 : decode cX7_allRun 51 = .ok (.iadd, 1) := by decide +kernel
theorem dX7_allRun_52 : decode cX7_allRun 52 = .ok (.iaload, 1) := by decide +kernel
theorem dX7_allRun_53 : decode cX7_allRun 53 = .ok (.aload_n 0, 1) := by decide +kernel
theorem dX7_allRun_54 : decode cX7_allRun 54 = .ok (.getfield 7, 3) := by decide +kernel
theorem dX7_allRun_57 : decode cX7_allRun 57 = .ok (.bipush 86, 2) := by decide +kernel
theorem dX7_allRun_59 : decode cX7_allRun 59 = .ok (.iconst 2, 1) := by decide +kernel
theorem dX7_allRun_60 : decode cX7_allRun 60 = .ok (.iload_n 3, 1) := by decide +kernel
theorem dX7_allRun_61 : decode cX7_allRun 61 = .ok (.imul, 1) := by decide +kernel
theorem dX7_allRun_62 : decode cX7_allRun 62 = .ok (.iadd, 1) := by decide +kernel
theorem dX7_allRun_63 : decode cX7_allRun 63 = .ok (.iconst 1, 1) := by decide +kernel
theorem dX7_allRun_64 : decode cX7_allRun 64 = .ok (.iadd, 1) := by decide +kernel
theorem dX7_allRun_65 : decode cX7_allRun 65 = .ok (.iaload, 1) := by decide +kernel
theorem dX7_allRun_66 : decode cX7_allRun 66 = .ok (.invokevirtual 86, 3) := by decide +kernel
theorem dX7_allRun_69 : decode cX7_allRun 69 = .ok (.iconst 0, 1) := by decide +kernel
theorem dX7_allRun_70 : decode cX7_allRun 70 = .ok (.istore 4, 2) := by decide +kernel
theorem dX7_allRun_72 : decode cX7_allRun 72 = .ok (.iload 4, 2) := by decide +kernel
theorem dX7_allRun_74 : decode cX7_allRun 74 = .ok (.bipush 7, 2) := by decide +kernel
theorem dX7_allRun_76 : decode cX7_allRun 76 = .ok (.if_icmp .ge 32, 3) := by decide +kernel
theorem dX7_allRun_79 : decode cX7_allRun 79 = .ok (.aload_n 0, 1) := by decide +kernel
theorem dX7_allRun_80 : decode cX7_allRun 80 = .ok (.getfield 7, 3) := by decide +kernel
theorem dX7_allRun_83 : decode cX7_allRun 83 = .ok (.sipush 143, 3) := by decide +kernel
theorem dX7_allRun_86 : decode cX7_allRun 86 = .ok (.bipush 7, 2) := by decide +kernel
theorem dX7_allRun_88 : decode cX7_allRun 88 = .ok (.iload_n 2, 1) := by decide +kernel
theorem dX7_allRun_89 : decode cX7_allRun 89 = .ok (.imul, 1) := by decide +kernel
theorem dX7_allRun_90 : decode cX7_allRun 90 = .ok (.iadd, 1) := by decide +kernel
theorem dX7_allRun_91 : decode cX7_allRun 91 = .ok (.iload 4, 2) := by decide +kernel
theorem dX7_allRun_93 : decode cX7_allRun 93 = .ok (.iadd, 1) := by decide +kernel
theorem dX7_allRun_94 : decode cX7_allRun 94 = .ok (.aload_n 0, 1) := by decide +kernel
theorem dX7_allRun_95 : decode cX7_allRun 95 = .ok (.getfield 22, 3) := by decide +kernel
theorem dX7_allRun_98 : decode cX7_allRun 98 = .ok (.iload 4, 2) := by decide +kernel
theorem dX7_allRun_100 : decode cX7_allRun 100 = .ok (.iaload, 1) := by decide +kernel
theorem dX7_allRun_101 : decode cX7_allRun 101 = .ok (.iastore, 1) := by decide +kernel
theorem dX7_allRun_102 : decode cX7_allRun 102 = .ok (.iinc 4 1, 3) := by decide +kernel
theorem dX7_allRun_105 : decode cX7_allRun 105 = .ok (.goto (-33), 3) := by decide +kernel
theorem dX7_allRun_108 : decode cX7_allRun 108 = .ok (.iload_n 1, 1) := by decide +kernel
theorem dX7_allRun_109 : decode cX7_allRun 109 = .ok (.aload_n 0, 1) := by decide +kernel
theorem dX7_allRun_110 : decode cX7_allRun 110 = .ok (.getfield 22, 3) := by decide +kernel
theorem dX7_allRun_113 : decode cX7_allRun 113 = .ok (.iconst 5, 1) := by decide +kernel
theorem dX7_allRun_114 : decode cX7_allRun 114 = .ok (.iaload, 1) := by decide +kernel
theorem dX7_allRun_115 : decode cX7_allRun 115 = .ok (.iadd, 1) := by decide +kernel
theorem dX7_allRun_116 : decode cX7_allRun 116 = .ok (.istore_n 1, 1) := by decide +kernel
theorem dX7_allRun_117 : decode cX7_allRun 117 = .ok (.iinc 2 1, 3) := by decide +kernel
theorem dX7_allRun_120 : decode cX7_allRun 120 = .ok (.goto (-97), 3) := by decide +kernel
theorem dX7_allRun_123 : decode cX7_allRun 123 = .ok (.aload_n 0, 1) := by decide +kernel
theorem dX7_allRun_124 : decode cX7_allRun 124 = .ok (.getfield 7, 3) := by decide +kernel
theorem dX7_allRun_127 : decode cX7_allRun 127 = .ok (.sipush 138, 3) := by decide +kernel
theorem dX7_allRun_130 : decode cX7_allRun 130 = .ok (.dup2, 1) := by decide +kernel
theorem dX7_allRun_131 : decode cX7_allRun 131 = .ok (.iaload, 1) := by decide +kernel
theorem dX7_allRun_132 : decode cX7_allRun 132 = .ok (.aload_n 0, 1) := by decide +kernel
theorem dX7_allRun_133 : decode cX7_allRun 133 = .ok (.getfield 7, 3) := by decide +kernel
theorem dX7_allRun_136 : decode cX7_allRun 136 = .ok (.bipush 85, 2) := by decide +kernel
theorem dX7_allRun_138 : decode cX7_allRun 138 = .ok (.iaload, 1) := by decide +kernel
theorem dX7_allRun_139 : decode cX7_allRun 139 = .ok (.iadd, 1) := by decide +kernel
theorem dX7_allRun_140 : decode cX7_allRun 140 = .ok (.iastore, 1) := by decide +kernel
theorem dX7_allRun_141 : decode cX7_allRun 141 = .ok (.aload_n 0, 1) := by decide +kernel
theorem dX7_allRun_142 : decode cX7_allRun 142 = .ok (.getfield 7, 3) := by decide +kernel
theorem dX7_allRun_145 : decode cX7_allRun 145 = .ok (.sipush 139, 3) := by decide +kernel
theorem dX7_allRun_148 : decode cX7_allRun 148 = .ok (.dup2, 1) := by decide +kernel
theorem dX7_allRun_149 : decode cX7_allRun 149 = .ok (.iaload, 1) := by decide +kernel
theorem dX7_allRun_150 : decode cX7_allRun 150 = .ok (.iload_n 1, 1) := by decide +kernel
theorem dX7_allRun_151 : decode cX7_allRun 151 = .ok (.iadd, 1) := by decide +kernel
theorem dX7_allRun_152 : decode cX7_allRun 152 = .ok (.iastore, 1) := by decide +kernel
theorem dX7_allRun_153 : decode cX7_allRun 153 = .ok (.aload_n 0, 1) := by decide +kernel
theorem dX7_allRun_154 : decode cX7_allRun 154 = .ok (.getfield 7, 3) := by decide +kernel
theorem dX7_allRun_157 : decode cX7_allRun 157 = .ok (.bipush 85, 2) := by decide +kernel
theorem dX7_allRun_159 : decode cX7_allRun 159 = .ok (.iconst 0, 1) := by decide +kernel
theorem dX7_allRun_160 : decode cX7_allRun 160 = .ok (.iastore, 1) := by decide +kernel
theorem dX7_allRun_161 : decode cX7_allRun 161 = .ok (.iload_n 1, 1) := by decide +kernel
theorem dX7_allRun_162 : decode cX7_allRun 162 = .ok (.ireturn, 1) := by decide +kernel
theorem dX7_scours_0 : decode cX7_scours 0 = .ok (.iconst 0, 1) := by decide +kernel
theorem dX7_scours_1 : decode cX7_scours 1 = .ok (.istore_n 1, 1) := by decide +kernel
theorem dX7_scours_2 : decode cX7_scours 2 = .ok (.iconst 0, 1) := by decide +kernel
theorem dX7_scours_3 : decode cX7_scours 3 = .ok (.istore_n 2, 1) := by decide +kernel
theorem dX7_scours_4 : decode cX7_scours 4 = .ok (.iload_n 2, 1) := by decide +kernel
theorem dX7_scours_5 : decode cX7_scours 5 = .ok (.bipush 80, 2) := by decide +kernel
theorem dX7_scours_7 : decode cX7_scours 7 = .ok (.if_icmp .ge 35, 3) := by decide +kernel
theorem dX7_scours_10 : decode cX7_scours 10 = .ok (.aload_n 0, 1) := by decide +kernel
theorem dX7_scours_11 : decode cX7_scours 11 = .ok (.getfield 28, 3) := by decide +kernel
theorem dX7_scours_14 : decode cX7_scours 14 = .ok (.iload_n 2, 1) := by decide +kernel
theorem dX7_scours_15 : decode cX7_scours 15 = .ok (.aload_n 0, 1) := by decide +kernel
theorem dX7_scours_16 : decode cX7_scours 16 = .ok (.iload_n 2, 1) := by decide +kernel
theorem dX7_scours_17 : decode cX7_scours 17 = .ok (.bipush 20, 2) := by decide +kernel
theorem dX7_scours_19 : decode cX7_scours 19 = .ok (.idiv, 1) := by decide +kernel
theorem dX7_scours_20 : decode cX7_scours 20 = .ok (.iload_n 2, 1) := by decide +kernel
theorem dX7_scours_21 : decode cX7_scours 21 = .ok (.bipush 20, 2) := by decide +kernel
theorem dX7_scours_23 : decode cX7_scours 23 = .ok (.irem, 1) := by decide +kernel
theorem dX7_scours_24 : decode cX7_scours 24 = .ok (.invokevirtual 90, 3) := by decide +kernel
theorem dX7_scours_27 : decode cX7_scours 27 = .ok (.ifCond .eq 7, 3) := by decide +kernel
theorem dX7_scours_30 : decode cX7_scours 30 = .ok (.iconst 1, 1) := by decide +kernel
theorem dX7_scours_31 : decode cX7_scours 31 = .ok (.goto 4, 3) := by decide +kernel
theorem dX7_scours_34 : decode cX7_scours 34 = .ok (.iconst 0, 1) := by decide +kernel
theorem dX7_scours_35 : decode cX7_scours 35 = .ok (.iastore, 1) := by decide +kernel
theorem dX7_scours_36 : decode cX7_scours 36 = .ok (.iinc 2 1, 3) := by decide +kernel
theorem dX7_scours_39 : decode cX7_scours 39 = .ok (.goto (-35), 3) := by decide +kernel
theorem dX7_scours_42 : decode cX7_scours 42 = .ok (.iconst 0, 1) := by decide +kernel
theorem dX7_scours_43 : decode cX7_scours 43 = .ok (.istore_n 2, 1) := by decide +kernel
theorem dX7_scours_44 : decode cX7_scours 44 = .ok (.iload_n 2, 1) := by decide +kernel
theorem dX7_scours_45 : decode cX7_scours 45 = .ok (.bipush 80, 2) := by decide +kernel
theorem dX7_scours_47 : decode cX7_scours 47 = .ok (.if_icmp .ge 45, 3) := by decide +kernel
theorem dX7_scours_50 : decode cX7_scours 50 = .ok (.iload_n 1, 1) := by decide +kernel
theorem dX7_scours_51 : decode cX7_scours 51 = .ok (.aload_n 0, 1) := by decide +kernel
theorem dX7_scours_52 : decode cX7_scours 52 = .ok (.getfield 28, 3) := by decide +kernel
theorem dX7_scours_55 : decode cX7_scours 55 = .ok (.iload_n 2, 1) := by decide +kernel
theorem dX7_scours_56 : decode cX7_scours 56 = .ok (.iaload, 1) := by decide +kernel
theorem dX7_scours_57 : decode cX7_scours 57 = .ok (.iconst 1, 1) := by decide +kernel
theorem dX7_scours_58 : decode cX7_scours 58 = .ok (.if_icmp .ne 25, 3) := by decide +kernel
theorem dX7_scours_61 : decode cX7_scours 61 = .ok (.aload_n 0, 1) := by decide +kernel
theorem dX7_scours_62 : decode cX7_scours 62 = .ok (.iload_n 2, 1) := by decide +kernel
theorem dX7_scours_63 : decode cX7_scours 63 = .ok (.bipush 20, 2) := by decide +kernel
theorem dX7_scours_65 : decode cX7_scours 65 = .ok (.idiv, 1) := by decide +kernel
theorem dX7_scours_66 : decode cX7_scours 66 = .ok (.iload_n 2, 1) := by decide +kernel
theorem dX7_scours_67 : decode cX7_scours 67 = .ok (.bipush 20, 2) := by decide +kernel
theorem dX7_scours_69 : decode cX7_scours 69 = .ok (.irem, 1) := by decide +kernel
theorem dX7_scours_70 : decode cX7_scours 70 = .ok (.iload_n 2, 1) := by decide +kernel
theorem dX7_scours_71 : decode cX7_scours 71 = .ok (.bipush 20, 2) := by decide +kernel
theorem dX7_scours_73 : decode cX7_scours 73 = .ok (.irem, 1) := by decide +kernel
theorem dX7_scours_74 : decode cX7_scours 74 = .ok (.iconst 1, 1) := by decide +kernel
theorem dX7_scours_75 : decode cX7_scours 75 = .ok (.iadd, 1) := by decide +kernel
theorem dX7_scours_76 : decode cX7_scours 76 = .ok (.iconst 1, 1) := by decide +kernel
theorem dX7_scours_77 : decode cX7_scours 77 = .ok (.invokevirtual 76, 3) := by decide +kernel
theorem dX7_scours_80 : decode cX7_scours 80 = .ok (.goto 4, 3) := by decide +kernel
theorem dX7_scours_83 : decode cX7_scours 83 = .ok (.iconst 0, 1) := by decide +kernel
theorem dX7_scours_84 : decode cX7_scours 84 = .ok (.iadd, 1) := by decide +kernel
theorem dX7_scours_85 : decode cX7_scours 85 = .ok (.istore_n 1, 1) := by decide +kernel
theorem dX7_scours_86 : decode cX7_scours 86 = .ok (.iinc 2 1, 3) := by decide +kernel
theorem dX7_scours_89 : decode cX7_scours 89 = .ok (.goto (-45), 3) := by decide +kernel
theorem dX7_scours_92 : decode cX7_scours 92 = .ok (.aload_n 0, 1) := by decide +kernel
theorem dX7_scours_93 : decode cX7_scours 93 = .ok (.getfield 7, 3) := by decide +kernel
theorem dX7_scours_96 : decode cX7_scours 96 = .ok (.sipush 140, 3) := by decide +kernel
theorem dX7_scours_99 : decode cX7_scours 99 = .ok (.dup2, 1) := by decide +kernel
theorem dX7_scours_100 : decode cX7_scours 100 = .ok (.iaload, 1) := by decide +kernel
theorem dX7_scours_101 : decode cX7_scours 101 = .ok (.iload_n 1, 1) := by decide +kernel
theorem dX7_scours_102 : decode cX7_scours 102 = .ok (.iadd, 1) := by decide +kernel
theorem dX7_scours_103 : decode cX7_scours 103 = .ok (.iastore, 1) := by decide +kernel
theorem dX7_scours_104 : decode cX7_scours 104 = .ok (.iload_n 1, 1) := by decide +kernel
theorem dX7_scours_105 : decode cX7_scours 105 = .ok (.ireturn, 1) := by decide +kernel
theorem dX7_slumps_0 : decode cX7_slumps 0 = .ok (.iconst 0, 1) := by decide +kernel
theorem dX7_slumps_1 : decode cX7_slumps 1 = .ok (.istore_n 1, 1) := by decide +kernel
theorem dX7_slumps_2 : decode cX7_slumps 2 = .ok (.iconst (-1), 1) := by decide +kernel
theorem dX7_slumps_3 : decode cX7_slumps 3 = .ok (.istore_n 2, 1) := by decide +kernel
theorem dX7_slumps_4 : decode cX7_slumps 4 = .ok (.iload_n 2, 1) := by decide +kernel
theorem dX7_slumps_5 : decode cX7_slumps 5 = .ok (.iload_n 1, 1) := by decide +kernel
theorem dX7_slumps_6 : decode cX7_slumps 6 = .ok (.if_icmp .eq 120, 3) := by decide +kernel
theorem dX7_slumps_9 : decode cX7_slumps 9 = .ok (.iload_n 1, 1) := by decide +kernel
theorem dX7_slumps_10 : decode cX7_slumps 10 = .ok (.istore_n 2, 1) := by decide +kernel
theorem dX7_slumps_11 : decode cX7_slumps 11 = .ok (.iconst 0, 1) := by decide +kernel
theorem dX7_slumps_12 : decode cX7_slumps 12 = .ok (.istore_n 3, 1) := by decide +kernel
theorem dX7_slumps_13 : decode cX7_slumps 13 = .ok (.iload_n 3, 1) := by decide +kernel
theorem dX7_slumps_14 : decode cX7_slumps 14 = .ok (.bipush 80, 2) := by decide +kernel
theorem dX7_slumps_16 : decode cX7_slumps 16 = .ok (.if_icmp .ge 107, 3) := by decide +kernel
theorem dX7_slumps_19 : decode cX7_slumps 19 = .ok (.iload_n 3, 1) := by decide +kernel
theorem dX7_slumps_20 : decode cX7_slumps 20 = .ok (.bipush 20, 2) := by decide +kernel
theorem dX7_slumps_22 : decode cX7_slumps 22 = .ok (.irem, 1) := by decide +kernel
theorem dX7_slumps_23 : decode cX7_slumps 23 = .ok (.istore 4, 2) := by decide +kernel
theorem dX7_slumps_25 : decode cX7_slumps 25 = .ok (.iload 4, 2) := by decide +kernel
theorem dX7_slumps_27 : decode cX7_slumps 27 = .ok (.bipush 19, 2) := by decide +kernel
theorem dX7_slumps_29 : decode cX7_slumps 29 = .ok (.if_icmp .ne 7, 3) := by decide +kernel
theorem dX7_slumps_32 : decode cX7_slumps 32 = .ok (.iconst 0, 1) := by decide +kernel
theorem dX7_slumps_33 : decode cX7_slumps 33 = .ok (.goto 18, 3) := by decide +kernel
theorem dX7_slumps_36 : decode cX7_slumps 36 = .ok (.aload_n 0, 1) := by decide +kernel
theorem dX7_slumps_37 : decode cX7_slumps 37 = .ok (.getfield 7, 3) := by decide +kernel
theorem dX7_slumps_40 : decode cX7_slumps 40 = .ok (.iload_n 3, 1) := by decide +kernel
theorem dX7_slumps_41 : decode cX7_slumps 41 = .ok (.iaload, 1) := by decide +kernel
theorem dX7_slumps_42 : decode cX7_slumps 42 = .ok (.aload_n 0, 1) := by decide +kernel
theorem dX7_slumps_43 : decode cX7_slumps 43 = .ok (.getfield 7, 3) := by decide +kernel
theorem dX7_slumps_46 : decode cX7_slumps 46 = .ok (.iload_n 3, 1) := by decide +kernel
theorem dX7_slumps_47 : decode cX7_slumps 47 = .ok (.iconst 1, 1) := by decide +kernel
theorem dX7_slumps_48 : decode cX7_slumps 48 = .ok (.iadd, 1) := by decide +kernel
theorem dX7_slumps_49 : decode cX7_slumps 49 = .ok (.iaload, 1) := by decide +kernel
theorem dX7_slumps_50 : decode cX7_slumps 50 = .ok (.isub, 1) := by decide +kernel
theorem dX7_slumps_51 : decode cX7_slumps 51 = .ok (.istore 5, 2) := by decide +kernel
theorem dX7_slumps_53 : decode cX7_slumps 53 = .ok (.iload 5, 2) := by decide +kernel
theorem dX7_slumps_55 : decode cX7_slumps 55 = .ok (.aload_n 0, 1) := by decide +kernel
theorem dX7_slumps_56 : decode cX7_slumps 56 = .ok (.getfield 7, 3) := by decide +kernel
theorem dX7_slumps_59 : decode cX7_slumps 59 = .ok (.bipush 84, 2) := by decide +kernel
theorem dX7_slumps_61 : decode cX7_slumps 61 = .ok (.iaload, 1) := by decide +kernel
theorem dX7_slumps_62 : decode cX7_slumps 62 = .ok (.if_icmp .le 24, 3) := by decide +kernel
theorem dX7_slumps_65 : decode cX7_slumps 65 = .ok (.iload_n 1, 1) := by decide +kernel
theorem dX7_slumps_66 : decode cX7_slumps 66 = .ok (.aload_n 0, 1) := by decide +kernel
theorem dX7_slumps_67 : decode cX7_slumps 67 = .ok (.iload_n 3, 1) := by decide +kernel
theorem dX7_slumps_68 : decode cX7_slumps 68 = .ok (.bipush 20, 2) := by decide +kernel
theorem dX7_slumps_70 : decode cX7_slumps 70 = .ok (.idiv, 1) := by decide +kernel
theorem dX7_slumps_71 : decode cX7_slumps 71 = .ok (.iload 4, 2) := by decide +kernel
theorem dX7_slumps_73 : decode cX7_slumps 73 = .ok (.iload 4, 2) := by decide +kernel
theorem dX7_slumps_75 : decode cX7_slumps 75 = .ok (.iconst 1, 1) := by decide +kernel
theorem dX7_slumps_76 : decode cX7_slumps 76 = .ok (.iadd, 1) := by decide +kernel
theorem dX7_slumps_77 : decode cX7_slumps 77 = .ok (.iconst 1, 1) := by decide +kernel
theorem dX7_slumps_78 : decode cX7_slumps 78 = .ok (.invokevirtual 76, 3) := by decide +kernel
theorem dX7_slumps_81 : decode cX7_slumps 81 = .ok (.iadd, 1) := by decide +kernel
theorem dX7_slumps_82 : decode cX7_slumps 82 = .ok (.istore_n 1, 1) := by decide +kernel
theorem dX7_slumps_83 : decode cX7_slumps 83 = .ok (.goto 34, 3) := by decide +kernel
theorem dX7_slumps_86 : decode cX7_slumps 86 = .ok (.iload 5, 2) := by decide +kernel
theorem dX7_slumps_88 : decode cX7_slumps 88 = .ok (.ineg, 1) := by decide +kernel
theorem dX7_slumps_89 : decode cX7_slumps 89 = .ok (.aload_n 0, 1) := by decide +kernel
theorem dX7_slumps_90 : decode cX7_slumps 90 = .ok (.getfield 7, 3) := by decide +kernel
theorem dX7_slumps_93 : decode cX7_slumps 93 = .ok (.bipush 84, 2) := by decide +kernel
theorem dX7_slumps_95 : decode cX7_slumps 95 = .ok (.iaload, 1) := by decide +kernel
theorem dX7_slumps_96 : decode cX7_slumps 96 = .ok (.if_icmp .le 21, 3) := by decide +kernel
theorem dX7_slumps_99 : decode cX7_slumps 99 = .ok (.iload_n 1, 1) := by decide +kernel
theorem dX7_slumps_100 : decode cX7_slumps 100 = .ok (.aload_n 0, 1) := by decide +kernel
theorem dX7_slumps_101 : decode cX7_slumps 101 = .ok (.iload_n 3, 1) := by decide +kernel
theorem dX7_slumps_102 : decode cX7_slumps 102 = .ok (.bipush 20, 2) := by decide +kernel
theorem dX7_slumps_104 : decode cX7_slumps 104 = .ok (.idiv, 1) := by decide +kernel
theorem dX7_slumps_105 : decode cX7_slumps 105 = .ok (.iload 4, 2) := by decide +kernel
theorem dX7_slumps_107 : decode cX7_slumps 107 = .ok (.iconst 1, 1) := by decide +kernel
theorem dX7_slumps_108 : decode cX7_slumps 108 = .ok (.iadd, 1) := by decide +kernel
theorem dX7_slumps_109 : decode cX7_slumps 109 = .ok (.iload 4, 2) := by decide +kernel
theorem dX7_slumps_111 : decode cX7_slumps 111 = .ok (.iconst 1, 1) := by decide +kernel
theorem dX7_slumps_112 : decode cX7_slumps 112 = .ok (.invokevirtual 76, 3) := by decide +kernel
theorem dX7_slumps_115 : decode cX7_slumps 115 = .ok (.iadd, 1) := by decide +kernel
theorem dX7_slumps_116 : decode cX7_slumps 116 = .ok (.istore_n 1, 1) := by decide +kernel
theorem dX7_slumps_117 : decode cX7_slumps 117 = .ok (.iinc 3 1, 3) := by decide +kernel
theorem dX7_slumps_120 : decode cX7_slumps 120 = .ok (.goto (-107), 3) := by decide +kernel
theorem dX7_slumps_123 : decode cX7_slumps 123 = .ok (.goto (-119), 3) := by decide +kernel
theorem dX7_slumps_126 : decode cX7_slumps 126 = .ok (.aload_n 0, 1) := by decide +kernel
theorem dX7_slumps_127 : decode cX7_slumps 127 = .ok (.getfield 7, 3) := by decide +kernel
theorem dX7_slumps_130 : decode cX7_slumps 130 = .ok (.sipush 141, 3) := by decide +kernel
theorem dX7_slumps_133 : decode cX7_slumps 133 = .ok (.dup2, 1) := by decide +kernel
theorem dX7_slumps_134 : decode cX7_slumps 134 = .ok (.iaload, 1) := by decide +kernel
theorem dX7_slumps_135 : decode cX7_slumps 135 = .ok (.iload_n 1, 1) := by decide +kernel
theorem dX7_slumps_136 : decode cX7_slumps 136 = .ok (.iadd, 1) := by decide +kernel
theorem dX7_slumps_137 : decode cX7_slumps 137 = .ok (.iastore, 1) := by decide +kernel
theorem dX7_slumps_138 : decode cX7_slumps 138 = .ok (.iload_n 1, 1) := by decide +kernel
theorem dX7_slumps_139 : decode cX7_slumps 139 = .ok (.ireturn, 1) := by decide +kernel
theorem dX7_dump_0 : decode cX7_dump 0 = .ok (.iload_n 1, 1) := by decide +kernel
theorem dX7_dump_1 : decode cX7_dump 1 = .ok (.invokestatic 65, 3) := by decide +kernel
theorem dX7_dump_4 : decode cX7_dump 4 = .ok (.ifCond .eq 10, 3) := by decide +kernel
theorem dX7_dump_7 : decode cX7_dump 7 = .ok (.iload_n 2, 1) := by decide +kernel
theorem dX7_dump_8 : decode cX7_dump 8 = .ok (.invokestatic 93, 3) := by decide +kernel
theorem dX7_dump_11 : decode cX7_dump 11 = .ok (.ifCond .ne 7, 3) := by decide +kernel
theorem dX7_dump_14 : decode cX7_dump 14 = .ok (.sipush (-1001), 3) := by decide +kernel
theorem dX7_dump_17 : decode cX7_dump 17 = .ok (.ireturn, 1) := by decide +kernel
theorem dX7_dump_18 : decode cX7_dump 18 = .ok (.iload_n 3, 1) := by decide +kernel
theorem dX7_dump_19 : decode cX7_dump 19 = .ok (.i2l, 1) := by decide +kernel
theorem dX7_dump_20 : decode cX7_dump 20 = .ok (.lconst 0, 1) := by decide +kernel
theorem dX7_dump_21 : decode cX7_dump 21 = .ok (.ldc2_w 96, 3) := by decide +kernel
theorem dX7_dump_24 : decode cX7_dump 24 = .ok (.invokestatic 43, 3) := by decide +kernel
theorem dX7_dump_27 : decode cX7_dump 27 = .ok (.ifCond .ne 7, 3) := by decide +kernel
theorem dX7_dump_30 : decode cX7_dump 30 = .ok (.sipush (-1002), 3) := by decide +kernel
theorem dX7_dump_33 : decode cX7_dump 33 = .ok (.ireturn, 1) := by decide +kernel
theorem dX7_dump_34 : decode cX7_dump 34 = .ok (.aload_n 0, 1) := by decide +kernel
theorem dX7_dump_35 : decode cX7_dump 35 = .ok (.iload_n 1, 1) := by decide +kernel
theorem dX7_dump_36 : decode cX7_dump 36 = .ok (.iload_n 2, 1) := by decide +kernel
theorem dX7_dump_37 : decode cX7_dump 37 = .ok (.invokevirtual 52, 3) := by decide +kernel
theorem dX7_dump_40 : decode cX7_dump 40 = .ok (.istore 4, 2) := by decide +kernel
theorem dX7_dump_42 : decode cX7_dump 42 = .ok (.iload 4, 2) := by decide +kernel
theorem dX7_dump_44 : decode cX7_dump 44 = .ok (.iload_n 3, 1) := by decide +kernel
theorem dX7_dump_45 : decode cX7_dump 45 = .ok (.if_icmp .ne 7, 3) := by decide +kernel
theorem dX7_dump_48 : decode cX7_dump 48 = .ok (.sipush (-1005), 3) := by decide +kernel
theorem dX7_dump_51 : decode cX7_dump 51 = .ok (.ireturn, 1) := by decide +kernel
theorem dX7_dump_52 : decode cX7_dump 52 = .ok (.aload_n 0, 1) := by decide +kernel
theorem dX7_dump_53 : decode cX7_dump 53 = .ok (.invokevirtual 98, 3) := by decide +kernel
theorem dX7_dump_56 : decode cX7_dump 56 = .ok (.aload_n 0, 1) := by decide +kernel
theorem dX7_dump_57 : decode cX7_dump 57 = .ok (.getfield 7, 3) := by decide +kernel
theorem dX7_dump_60 : decode cX7_dump 60 = .ok (.bipush 20, 2) := by decide +kernel
theorem dX7_dump_62 : decode cX7_dump 62 = .ok (.iload_n 1, 1) := by decide +kernel
theorem dX7_dump_63 : decode cX7_dump 63 = .ok (.imul, 1) := by decide +kernel
theorem dX7_dump_64 : decode cX7_dump 64 = .ok (.iload_n 2, 1) := by decide +kernel
theorem dX7_dump_65 : decode cX7_dump 65 = .ok (.iadd, 1) := by decide +kernel
theorem dX7_dump_66 : decode cX7_dump 66 = .ok (.iload_n 3, 1) := by decide +kernel
theorem dX7_dump_67 : decode cX7_dump 67 = .ok (.iastore, 1) := by decide +kernel
theorem dX7_dump_68 : decode cX7_dump 68 = .ok (.aload_n 0, 1) := by decide +kernel
theorem dX7_dump_69 : decode cX7_dump 69 = .ok (.getfield 7, 3) := by decide +kernel
theorem dX7_dump_72 : decode cX7_dump 72 = .ok (.sipush 136, 3) := by decide +kernel
theorem dX7_dump_75 : decode cX7_dump 75 = .ok (.dup2, 1) := by decide +kernel
theorem dX7_dump_76 : decode cX7_dump 76 = .ok (.iaload, 1) := by decide +kernel
theorem dX7_dump_77 : decode cX7_dump 77 = .ok (.iload_n 3, 1) := by decide +kernel
theorem dX7_dump_78 : decode cX7_dump 78 = .ok (.iload 4, 2) := by decide +kernel
theorem dX7_dump_80 : decode cX7_dump 80 = .ok (.if_icmp .le 10, 3) := by decide +kernel
theorem dX7_dump_83 : decode cX7_dump 83 = .ok (.iload_n 3, 1) := by decide +kernel
theorem dX7_dump_84 : decode cX7_dump 84 = .ok (.iload 4, 2) := by decide +kernel
theorem dX7_dump_86 : decode cX7_dump 86 = .ok (.isub, 1) := by decide +kernel
theorem dX7_dump_87 : decode cX7_dump 87 = .ok (.goto 4, 3) := by decide +kernel
theorem dX7_dump_90 : decode cX7_dump 90 = .ok (.iconst 0, 1) := by decide +kernel
theorem dX7_dump_91 : decode cX7_dump 91 = .ok (.iadd, 1) := by decide +kernel
theorem dX7_dump_92 : decode cX7_dump 92 = .ok (.iastore, 1) := by decide +kernel
theorem dX7_dump_93 : decode cX7_dump 93 = .ok (.aload_n 0, 1) := by decide +kernel
theorem dX7_dump_94 : decode cX7_dump 94 = .ok (.getfield 7, 3) := by decide +kernel
theorem dX7_dump_97 : decode cX7_dump 97 = .ok (.sipush 137, 3) := by decide +kernel
theorem dX7_dump_100 : decode cX7_dump 100 = .ok (.dup2, 1) := by decide +kernel
theorem dX7_dump_101 : decode cX7_dump 101 = .ok (.iaload, 1) := by decide +kernel
theorem dX7_dump_102 : decode cX7_dump 102 = .ok (.iload_n 3, 1) := by decide +kernel
theorem dX7_dump_103 : decode cX7_dump 103 = .ok (.iload 4, 2) := by decide +kernel
theorem dX7_dump_105 : decode cX7_dump 105 = .ok (.if_icmp .ge 10, 3) := by decide +kernel
theorem dX7_dump_108 : decode cX7_dump 108 = .ok (.iload 4, 2) := by decide +kernel
theorem dX7_dump_110 : decode cX7_dump 110 = .ok (.iload_n 3, 1) := by decide +kernel
theorem dX7_dump_111 : decode cX7_dump 111 = .ok (.isub, 1) := by decide +kernel
theorem dX7_dump_112 : decode cX7_dump 112 = .ok (.goto 4, 3) := by decide +kernel
theorem dX7_dump_115 : decode cX7_dump 115 = .ok (.iconst 0, 1) := by decide +kernel
theorem dX7_dump_116 : decode cX7_dump 116 = .ok (.iadd, 1) := by decide +kernel
theorem dX7_dump_117 : decode cX7_dump 117 = .ok (.iastore, 1) := by decide +kernel
theorem dX7_dump_118 : decode cX7_dump 118 = .ok (.aload_n 0, 1) := by decide +kernel
theorem dX7_dump_119 : decode cX7_dump 119 = .ok (.iload 4, 2) := by decide +kernel
theorem dX7_dump_121 : decode cX7_dump 121 = .ok (.invokevirtual 101, 3) := by decide +kernel
theorem dX7_dump_124 : decode cX7_dump 124 = .ok (.ireturn, 1) := by decide +kernel
theorem dX7_sets_0 : decode cX7_sets 0 = .ok (.aload_n 0, 1) := by decide +kernel
theorem dX7_sets_1 : decode cX7_sets 1 = .ok (.getfield 7, 3) := by decide +kernel
theorem dX7_sets_4 : decode cX7_sets 4 = .ok (.iload_n 1, 1) := by decide +kernel
theorem dX7_sets_5 : decode cX7_sets 5 = .ok (.iaload, 1) := by decide +kernel
theorem dX7_sets_6 : decode cX7_sets 6 = .ok (.istore_n 3, 1) := by decide +kernel
theorem dX7_sets_7 : decode cX7_sets 7 = .ok (.iload_n 3, 1) := by decide +kernel
theorem dX7_sets_8 : decode cX7_sets 8 = .ok (.iload_n 2, 1) := by decide +kernel
theorem dX7_sets_9 : decode cX7_sets 9 = .ok (.if_icmp .ne 7, 3) := by decide +kernel
theorem dX7_sets_12 : decode cX7_sets 12 = .ok (.sipush (-1005), 3) := by decide +kernel
theorem dX7_sets_15 : decode cX7_sets 15 = .ok (.ireturn, 1) := by decide +kernel
theorem dX7_sets_16 : decode cX7_sets 16 = .ok (.aload_n 0, 1) := by decide +kernel
theorem dX7_sets_17 : decode cX7_sets 17 = .ok (.invokevirtual 98, 3) := by decide +kernel
theorem dX7_sets_20 : decode cX7_sets 20 = .ok (.aload_n 0, 1) := by decide +kernel
theorem dX7_sets_21 : decode cX7_sets 21 = .ok (.getfield 7, 3) := by decide +kernel
theorem dX7_sets_24 : decode cX7_sets 24 = .ok (.iload_n 1, 1) := by decide +kernel
theorem dX7_sets_25 : decode cX7_sets 25 = .ok (.iload_n 2, 1) := by decide +kernel
theorem dX7_sets_26 : decode cX7_sets 26 = .ok (.iastore, 1) := by decide +kernel
theorem dX7_sets_27 : decode cX7_sets 27 = .ok (.aload_n 0, 1) := by decide +kernel
theorem dX7_sets_28 : decode cX7_sets 28 = .ok (.iload_n 3, 1) := by decide +kernel
theorem dX7_sets_29 : decode cX7_sets 29 = .ok (.invokevirtual 101, 3) := by decide +kernel
theorem dX7_sets_32 : decode cX7_sets 32 = .ok (.ireturn, 1) := by decide +kernel
theorem dX7_setLevel_0 : decode cX7_setLevel 0 = .ok (.iload_n 1, 1) := by decide +kernel
theorem dX7_setLevel_1 : decode cX7_setLevel 1 = .ok (.i2l, 1) := by decide +kernel
theorem dX7_setLevel_2 : decode cX7_setLevel 2 = .ok (.ldc2_w 105, 3) := by decide +kernel
theorem dX7_setLevel_5 : decode cX7_setLevel 5 = .ok (.ldc2_w 107, 3) := by decide +kernel
theorem dX7_setLevel_8 : decode cX7_setLevel 8 = .ok (.invokestatic 43, 3) := by decide +kernel
theorem dX7_setLevel_11 : decode cX7_setLevel 11 = .ok (.ifCond .eq 13, 3) := by decide +kernel
theorem dX7_setLevel_14 : decode cX7_setLevel 14 = .ok (.aload_n 0, 1) := by decide +kernel
theorem dX7_setLevel_15 : decode cX7_setLevel 15 = .ok (.bipush 80, 2) := by decide +kernel
theorem dX7_setLevel_17 : decode cX7_setLevel 17 = .ok (.iload_n 1, 1) := by decide +kernel
theorem dX7_setLevel_18 : decode cX7_setLevel 18 = .ok (.invokevirtual 109, 3) := by decide +kernel
theorem dX7_setLevel_21 : decode cX7_setLevel 21 = .ok (.goto 6, 3) := by decide +kernel
theorem dX7_setLevel_24 : decode cX7_setLevel 24 = .ok (.sipush (-1002), 3) := by decide +kernel
theorem dX7_setLevel_27 : decode cX7_setLevel 27 = .ok (.ireturn, 1) := by decide +kernel
theorem dX7_isSetting_0 : decode cX7_isSetting 0 = .ok (.iload_n 0, 1) := by decide +kernel
theorem dX7_isSetting_1 : decode cX7_isSetting 1 = .ok (.tableswitch 47 0 2 #[27, 37, 27], 27) := by decide +kernel
theorem dX7_isSetting_28 : decode cX7_isSetting 28 = .ok (.iload_n 1, 1) := by decide +kernel
theorem dX7_isSetting_29 : decode cX7_isSetting 29 = .ok (.i2l, 1) := by decide +kernel
theorem dX7_isSetting_30 : decode cX7_isSetting 30 = .ok (.lconst 1, 1) := by decide +kernel
theorem dX7_isSetting_31 : decode cX7_isSetting 31 = .ok (.ldc2_w 105, 3) := by decide +kernel
theorem dX7_isSetting_34 : decode cX7_isSetting 34 = .ok (.invokestatic 43, 3) := by decide +kernel
theorem dX7_isSetting_37 : decode cX7_isSetting 37 = .ok (.ireturn, 1) := by decide +kernel
theorem dX7_isSetting_38 : decode cX7_isSetting 38 = .ok (.iload_n 1, 1) := by decide +kernel
theorem dX7_isSetting_39 : decode cX7_isSetting 39 = .ok (.i2l, 1) := by decide +kernel
theorem dX7_isSetting_40 : decode cX7_isSetting 40 = .ok (.lconst 0, 1) := by decide +kernel
theorem dX7_isSetting_41 : decode cX7_isSetting 41 = .ok (.ldc2_w 112, 3) := by decide +kernel
theorem dX7_isSetting_44 : decode cX7_isSetting 44 = .ok (.invokestatic 43, 3) := by decide +kernel
theorem dX7_isSetting_47 : decode cX7_isSetting 47 = .ok (.ireturn, 1) := by decide +kernel
theorem dX7_isSetting_48 : decode cX7_isSetting 48 = .ok (.iload_n 0, 1) := by decide +kernel
theorem dX7_isSetting_49 : decode cX7_isSetting 49 = .ok (.iconst 3, 1) := by decide +kernel
theorem dX7_isSetting_50 : decode cX7_isSetting 50 = .ok (.if_icmp .ne 21, 3) := by decide +kernel
theorem dX7_isSetting_53 : decode cX7_isSetting 53 = .ok (.iload_n 1, 1) := by decide +kernel
theorem dX7_isSetting_54 : decode cX7_isSetting 54 = .ok (.i2l, 1) := by decide +kernel
theorem dX7_isSetting_55 : decode cX7_isSetting 55 = .ok (.ldc2_w 114, 3) := by decide +kernel
theorem dX7_isSetting_58 : decode cX7_isSetting 58 = .ok (.ldc2_w 116, 3) := by decide +kernel
theorem dX7_isSetting_61 : decode cX7_isSetting 61 = .ok (.invokestatic 43, 3) := by decide +kernel
theorem dX7_isSetting_64 : decode cX7_isSetting 64 = .ok (.ifCond .eq 7, 3) := by decide +kernel
theorem dX7_isSetting_67 : decode cX7_isSetting 67 = .ok (.iconst 1, 1) := by decide +kernel
theorem dX7_isSetting_68 : decode cX7_isSetting 68 = .ok (.goto 4, 3) := by decide +kernel
theorem dX7_isSetting_71 : decode cX7_isSetting 71 = .ok (.iconst 0, 1) := by decide +kernel
theorem dX7_isSetting_72 : decode cX7_isSetting 72 = .ok (.ireturn, 1) := by decide +kernel
theorem dX7_set_0 : decode cX7_set 0 = .ok (.iload_n 1, 1) := by decide +kernel
theorem dX7_set_1 : decode cX7_set 1 = .ok (.iload_n 2, 1) := by decide +kernel
theorem dX7_set_2 : decode cX7_set 2 = .ok (.invokestatic 118, 3) := by decide +kernel
theorem dX7_set_5 : decode cX7_set 5 = .ok (.ifCond .eq 15, 3) := by decide +kernel
theorem dX7_set_8 : decode cX7_set 8 = .ok (.aload_n 0, 1) := by decide +kernel
theorem dX7_set_9 : decode cX7_set 9 = .ok (.bipush 81, 2) := by decide +kernel
theorem dX7_set_11 : decode cX7_set 11 = .ok (.iload_n 1, 1) := by decide +kernel
theorem dX7_set_12 : decode cX7_set 12 = .ok (.iadd, 1) := by decide +kernel
theorem dX7_set_13 : decode cX7_set 13 = .ok (.iload_n 2, 1) := by decide +kernel
theorem dX7_set_14 : decode cX7_set 14 = .ok (.invokevirtual 109, 3) := by decide +kernel
theorem dX7_set_17 : decode cX7_set 17 = .ok (.goto 6, 3) := by decide +kernel
theorem dX7_set_20 : decode cX7_set 20 = .ok (.sipush (-1002), 3) := by decide +kernel
theorem dX7_set_23 : decode cX7_set 23 = .ok (.ireturn, 1) := by decide +kernel
theorem dX7_isHeight_0 : decode cX7_isHeight 0 = .ok (.iload_n 0, 1) := by decide +kernel
theorem dX7_isHeight_1 : decode cX7_isHeight 1 = .ok (.i2l, 1) := by decide +kernel
theorem dX7_isHeight_2 : decode cX7_isHeight 2 = .ok (.lconst 1, 1) := by decide +kernel
theorem dX7_isHeight_3 : decode cX7_isHeight 3 = .ok (.ldc2_w 105, 3) := by decide +kernel
theorem dX7_isHeight_6 : decode cX7_isHeight 6 = .ok (.invokestatic 43, 3) := by decide +kernel
theorem dX7_isHeight_9 : decode cX7_isHeight 9 = .ok (.ireturn, 1) := by decide +kernel
theorem dX7_puts_0 : decode cX7_puts 0 = .ok (.aload_n 0, 1) := by decide +kernel
theorem dX7_puts_1 : decode cX7_puts 1 = .ok (.getfield 7, 3) := by decide +kernel
theorem dX7_puts_4 : decode cX7_puts 4 = .ok (.bipush 86, 2) := by decide +kernel
theorem dX7_puts_6 : decode cX7_puts 6 = .ok (.iconst 2, 1) := by decide +kernel
theorem dX7_puts_7 : decode cX7_puts 7 = .ok (.aload_n 0, 1) := by decide +kernel
theorem dX7_puts_8 : decode cX7_puts 8 = .ok (.getfield 7, 3) := by decide +kernel
theorem dX7_puts_11 : decode cX7_puts 11 = .ok (.bipush 85, 2) := by decide +kernel
theorem dX7_puts_13 : decode cX7_puts 13 = .ok (.iaload, 1) := by decide +kernel
theorem dX7_puts_14 : decode cX7_puts 14 = .ok (.imul, 1) := by decide +kernel
theorem dX7_puts_15 : decode cX7_puts 15 = .ok (.iadd, 1) := by decide +kernel
theorem dX7_puts_16 : decode cX7_puts 16 = .ok (.iload_n 1, 1) := by decide +kernel
theorem dX7_puts_17 : decode cX7_puts 17 = .ok (.iastore, 1) := by decide +kernel
theorem dX7_puts_18 : decode cX7_puts 18 = .ok (.aload_n 0, 1) := by decide +kernel
theorem dX7_puts_19 : decode cX7_puts 19 = .ok (.getfield 7, 3) := by decide +kernel
theorem dX7_puts_22 : decode cX7_puts 22 = .ok (.bipush 86, 2) := by decide +kernel
theorem dX7_puts_24 : decode cX7_puts 24 = .ok (.iconst 2, 1) := by decide +kernel
theorem dX7_puts_25 : decode cX7_puts 25 = .ok (.aload_n 0, 1) := by decide +kernel
theorem dX7_puts_26 : decode cX7_puts 26 = .ok (.getfield 7, 3) := by decide +kernel
theorem dX7_puts_29 : decode cX7_puts 29 = .ok (.bipush 85, 2) := by decide +kernel
theorem dX7_puts_31 : decode cX7_puts 31 = .ok (.iaload, 1) := by decide +kernel
theorem dX7_puts_32 : decode cX7_puts 32 = .ok (.imul, 1) := by decide +kernel
theorem dX7_puts_33 : decode cX7_puts 33 = .ok (.iadd, 1) := by decide +kernel
theorem dX7_puts_34 : decode cX7_puts 34 = .ok (.iconst 1, 1) := by decide +kernel
theorem dX7_puts_35 : decode cX7_puts 35 = .ok (.iadd, 1) := by decide +kernel
theorem dX7_puts_36 : decode cX7_puts 36 = .ok (.iload_n 2, 1) := by decide +kernel
theorem dX7_puts_37 : decode cX7_puts 37 = .ok (.iastore, 1) := by decide +kernel
theorem dX7_puts_38 : decode cX7_puts 38 = .ok (.aload_n 0, 1) := by decide +kernel
theorem dX7_puts_39 : decode cX7_puts 39 = .ok (.getfield 7, 3) := by decide +kernel
theorem dX7_puts_42 : decode cX7_puts 42 = .ok (.bipush 85, 2) := by decide +kernel
theorem dX7_puts_44 : decode cX7_puts 44 = .ok (.dup2, 1) := by decide +kernel
theorem dX7_puts_45 : decode cX7_puts 45 = .ok (.iaload, 1) := by decide +kernel
theorem dX7_puts_46 : decode cX7_puts 46 = .ok (.iconst 1, 1) := by decide +kernel
theorem dX7_puts_47 : decode cX7_puts 47 = .ok (.iadd, 1) := by decide +kernel
theorem dX7_puts_48 : decode cX7_puts 48 = .ok (.iastore, 1) := by decide +kernel
theorem dX7_puts_49 : decode cX7_puts 49 = .ok (.return_, 1) := by decide +kernel
theorem dX7_wave_0 : decode cX7_wave 0 = .ok (.iload_n 1, 1) := by decide +kernel
theorem dX7_wave_1 : decode cX7_wave 1 = .ok (.invokestatic 65, 3) := by decide +kernel
theorem dX7_wave_4 : decode cX7_wave 4 = .ok (.ifCond .ne 7, 3) := by decide +kernel
theorem dX7_wave_7 : decode cX7_wave 7 = .ok (.sipush (-1001), 3) := by decide +kernel
theorem dX7_wave_10 : decode cX7_wave 10 = .ok (.ireturn, 1) := by decide +kernel
theorem dX7_wave_11 : decode cX7_wave 11 = .ok (.iload_n 2, 1) := by decide +kernel
theorem dX7_wave_12 : decode cX7_wave 12 = .ok (.invokestatic 121, 3) := by decide +kernel
theorem dX7_wave_15 : decode cX7_wave 15 = .ok (.ifCond .ne 7, 3) := by decide +kernel
theorem dX7_wave_18 : decode cX7_wave 18 = .ok (.sipush (-1002), 3) := by decide +kernel
theorem dX7_wave_21 : decode cX7_wave 21 = .ok (.ireturn, 1) := by decide +kernel
theorem dX7_wave_22 : decode cX7_wave 22 = .ok (.aload_n 0, 1) := by decide +kernel
theorem dX7_wave_23 : decode cX7_wave 23 = .ok (.getfield 7, 3) := by decide +kernel
theorem dX7_wave_26 : decode cX7_wave 26 = .ok (.bipush 85, 2) := by decide +kernel
theorem dX7_wave_28 : decode cX7_wave 28 = .ok (.iaload, 1) := by decide +kernel
theorem dX7_wave_29 : decode cX7_wave 29 = .ok (.bipush 24, 2) := by decide +kernel
theorem dX7_wave_31 : decode cX7_wave 31 = .ok (.if_icmp .ne 7, 3) := by decide +kernel
theorem dX7_wave_34 : decode cX7_wave 34 = .ok (.sipush (-1003), 3) := by decide +kernel
theorem dX7_wave_37 : decode cX7_wave 37 = .ok (.ireturn, 1) := by decide +kernel
theorem dX7_wave_38 : decode cX7_wave 38 = .ok (.aload_n 0, 1) := by decide +kernel
theorem dX7_wave_39 : decode cX7_wave 39 = .ok (.invokevirtual 98, 3) := by decide +kernel
theorem dX7_wave_42 : decode cX7_wave 42 = .ok (.aload_n 0, 1) := by decide +kernel
theorem dX7_wave_43 : decode cX7_wave 43 = .ok (.iload_n 1, 1) := by decide +kernel
theorem dX7_wave_44 : decode cX7_wave 44 = .ok (.iload_n 2, 1) := by decide +kernel
theorem dX7_wave_45 : decode cX7_wave 45 = .ok (.invokevirtual 124, 3) := by decide +kernel
theorem dX7_wave_48 : decode cX7_wave 48 = .ok (.aload_n 0, 1) := by decide +kernel
theorem dX7_wave_49 : decode cX7_wave 49 = .ok (.aload_n 0, 1) := by decide +kernel
theorem dX7_wave_50 : decode cX7_wave 50 = .ok (.getfield 7, 3) := by decide +kernel
theorem dX7_wave_53 : decode cX7_wave 53 = .ok (.bipush 85, 2) := by decide +kernel
theorem dX7_wave_55 : decode cX7_wave 55 = .ok (.iaload, 1) := by decide +kernel
theorem dX7_wave_56 : decode cX7_wave 56 = .ok (.invokevirtual 101, 3) := by decide +kernel
theorem dX7_wave_59 : decode cX7_wave 59 = .ok (.ireturn, 1) := by decide +kernel
theorem dX7_strike_0 : decode cX7_strike 0 = .ok (.iload_n 1, 1) := by decide +kernel
theorem dX7_strike_1 : decode cX7_strike 1 = .ok (.invokestatic 121, 3) := by decide +kernel
theorem dX7_strike_4 : decode cX7_strike 4 = .ok (.ifCond .eq 15, 3) := by decide +kernel
theorem dX7_strike_7 : decode cX7_strike 7 = .ok (.iload_n 2, 1) := by decide +kernel
theorem dX7_strike_8 : decode cX7_strike 8 = .ok (.invokestatic 121, 3) := by decide +kernel
theorem dX7_strike_11 : decode cX7_strike 11 = .ok (.ifCond .eq 8, 3) := by decide +kernel
theorem dX7_strike_14 : decode cX7_strike 14 = .ok (.iload_n 2, 1) := by decide +kernel
theorem dX7_strike_15 : decode cX7_strike 15 = .ok (.iload_n 1, 1) := by decide +kernel
theorem dX7_strike_16 : decode cX7_strike 16 = .ok (.if_icmp .ge 7, 3) := by decide +kernel
theorem dX7_strike_19 : decode cX7_strike 19 = .ok (.sipush (-1002), 3) := by decide +kernel
theorem dX7_strike_22 : decode cX7_strike 22 = .ok (.ireturn, 1) := by decide +kernel
theorem dX7_strike_23 : decode cX7_strike 23 = .ok (.aload_n 0, 1) := by decide +kernel
theorem dX7_strike_24 : decode cX7_strike 24 = .ok (.invokevirtual 98, 3) := by decide +kernel
theorem dX7_strike_27 : decode cX7_strike 27 = .ok (.aload_n 0, 1) := by decide +kernel
theorem dX7_strike_28 : decode cX7_strike 28 = .ok (.getfield 7, 3) := by decide +kernel
theorem dX7_strike_31 : decode cX7_strike 31 = .ok (.bipush 85, 2) := by decide +kernel
theorem dX7_strike_33 : decode cX7_strike 33 = .ok (.iconst 0, 1) := by decide +kernel
theorem dX7_strike_34 : decode cX7_strike 34 = .ok (.iastore, 1) := by decide +kernel
theorem dX7_strike_35 : decode cX7_strike 35 = .ok (.iconst 0, 1) := by decide +kernel
theorem dX7_strike_36 : decode cX7_strike 36 = .ok (.istore_n 3, 1) := by decide +kernel
theorem dX7_strike_37 : decode cX7_strike 37 = .ok (.iload_n 3, 1) := by decide +kernel
theorem dX7_strike_38 : decode cX7_strike 38 = .ok (.aload_n 0, 1) := by decide +kernel
theorem dX7_strike_39 : decode cX7_strike 39 = .ok (.getfield 13, 3) := by decide +kernel
theorem dX7_strike_42 : decode cX7_strike 42 = .ok (.bipush 85, 2) := by decide +kernel
theorem dX7_strike_44 : decode cX7_strike 44 = .ok (.iaload, 1) := by decide +kernel
theorem dX7_strike_45 : decode cX7_strike 45 = .ok (.if_icmp .ge 61, 3) := by decide +kernel
theorem dX7_strike_48 : decode cX7_strike 48 = .ok (.aload_n 0, 1) := by decide +kernel
theorem dX7_strike_49 : decode cX7_strike 49 = .ok (.getfield 13, 3) := by decide +kernel
theorem dX7_strike_52 : decode cX7_strike 52 = .ok (.bipush 86, 2) := by decide +kernel
theorem dX7_strike_54 : decode cX7_strike 54 = .ok (.iconst 2, 1) := by decide +kernel
theorem dX7_strike_55 : decode cX7_strike 55 = .ok (.iload_n 3, 1) := by decide +kernel
theorem dX7_strike_56 : decode cX7_strike 56 = .ok (.imul, 1) := by decide +kernel
theorem dX7_strike_57 : decode cX7_strike 57 = .ok (.iadd, 1) := by decide +kernel
theorem dX7_strike_58 : decode cX7_strike 58 = .ok (.iconst 1, 1) := by decide +kernel
theorem dX7_strike_59 : decode cX7_strike 59 = .ok (.iadd, 1) := by decide +kernel
theorem dX7_strike_60 : decode cX7_strike 60 = .ok (.iaload, 1) := by decide +kernel
theorem dX7_strike_61 : decode cX7_strike 61 = .ok (.i2l, 1) := by decide +kernel
theorem dX7_strike_62 : decode cX7_strike 62 = .ok (.iload_n 1, 1) := by decide +kernel
theorem dX7_strike_63 : decode cX7_strike 63 = .ok (.i2l, 1) := by decide +kernel
theorem dX7_strike_64 : decode cX7_strike 64 = .ok (.iload_n 2, 1) := by decide +kernel
theorem dX7_strike_65 : decode cX7_strike 65 = .ok (.i2l, 1) := by decide +kernel
theorem dX7_strike_66 : decode cX7_strike 66 = .ok (.invokestatic 43, 3) := by decide +kernel
theorem dX7_strike_69 : decode cX7_strike 69 = .ok (.ifCond .ne 31, 3) := by decide +kernel
theorem dX7_strike_72 : decode cX7_strike 72 = .ok (.aload_n 0, 1) := by decide +kernel
theorem dX7_strike_73 : decode cX7_strike 73 = .ok (.aload_n 0, 1) := by decide +kernel
theorem dX7_strike_74 : decode cX7_strike 74 = .ok (.getfield 13, 3) := by decide +kernel
theorem dX7_strike_77 : decode cX7_strike 77 = .ok (.bipush 86, 2) := by decide +kernel
theorem dX7_strike_79 : decode cX7_strike 79 = .ok (.iconst 2, 1) := by decide +kernel
theorem dX7_strike_80 : decode cX7_strike 80 = .ok (.iload_n 3, 1) := by decide +kernel
theorem dX7_strike_81 : decode cX7_strike 81 = .ok (.imul, 1) := by decide +kernel
theorem dX7_strike_82 : decode cX7_strike 82 = .ok (.iadd, 1) := by decide +kernel
theorem dX7_strike_83 : decode cX7_strike 83 = .ok (.iaload, 1) := by decide +kernel
theorem dX7_strike_84 : decode cX7_strike 84 = .ok (.aload_n 0, 1) := by decide +kernel
theorem dX7_strike_85 : decode cX7_strike 85 = .ok (.getfield 13, 3) := by decide +kernel
theorem dX7_strike_88 : decode cX7_strike 88 = .ok (.bipush 86, 2) := by decide +kernel
theorem dX7_strike_90 : decode cX7_strike 90 = .ok (.iconst 2, 1) := by decide +kernel
theorem dX7_strike_91 : decode cX7_strike 91 = .ok (.iload_n 3, 1) := by decide +kernel
theorem dX7_strike_92 : decode cX7_strike 92 = .ok (.imul, 1) := by decide +kernel
theorem dX7_strike_93 : decode cX7_strike 93 = .ok (.iadd, 1) := by decide +kernel
theorem dX7_strike_94 : decode cX7_strike 94 = .ok (.iconst 1, 1) := by decide +kernel
theorem dX7_strike_95 : decode cX7_strike 95 = .ok (.iadd, 1) := by decide +kernel
theorem dX7_strike_96 : decode cX7_strike 96 = .ok (.iaload, 1) := by decide +kernel
theorem dX7_strike_97 : decode cX7_strike 97 = .ok (.invokevirtual 124, 3) := by decide +kernel
theorem dX7_strike_100 : decode cX7_strike 100 = .ok (.iinc 3 1, 3) := by decide +kernel
theorem dX7_strike_103 : decode cX7_strike 103 = .ok (.goto (-66), 3) := by decide +kernel
theorem dX7_strike_106 : decode cX7_strike 106 = .ok (.aload_n 0, 1) := by decide +kernel
theorem dX7_strike_107 : decode cX7_strike 107 = .ok (.getfield 13, 3) := by decide +kernel
theorem dX7_strike_110 : decode cX7_strike 110 = .ok (.bipush 85, 2) := by decide +kernel
theorem dX7_strike_112 : decode cX7_strike 112 = .ok (.iaload, 1) := by decide +kernel
theorem dX7_strike_113 : decode cX7_strike 113 = .ok (.aload_n 0, 1) := by decide +kernel
theorem dX7_strike_114 : decode cX7_strike 114 = .ok (.getfield 7, 3) := by decide +kernel
theorem dX7_strike_117 : decode cX7_strike 117 = .ok (.bipush 85, 2) := by decide +kernel
theorem dX7_strike_119 : decode cX7_strike 119 = .ok (.iaload, 1) := by decide +kernel
theorem dX7_strike_120 : decode cX7_strike 120 = .ok (.isub, 1) := by decide +kernel
theorem dX7_strike_121 : decode cX7_strike 121 = .ok (.istore_n 3, 1) := by decide +kernel
theorem dX7_strike_122 : decode cX7_strike 122 = .ok (.iload_n 3, 1) := by decide +kernel
theorem dX7_strike_123 : decode cX7_strike 123 = .ok (.ifCond .ne 9, 3) := by decide +kernel
theorem dX7_strike_126 : decode cX7_strike 126 = .ok (.sipush (-1005), 3) := by decide +kernel
theorem dX7_strike_129 : decode cX7_strike 129 = .ok (.goto 8, 3) := by decide +kernel
theorem dX7_strike_132 : decode cX7_strike 132 = .ok (.aload_n 0, 1) := by decide +kernel
theorem dX7_strike_133 : decode cX7_strike 133 = .ok (.iload_n 3, 1) := by decide +kernel
theorem dX7_strike_134 : decode cX7_strike 134 = .ok (.invokevirtual 101, 3) := by decide +kernel
theorem dX7_strike_137 : decode cX7_strike 137 = .ok (.ireturn, 1) := by decide +kernel
theorem dX7_run_0 : decode cX7_run 0 = .ok (.iload_n 1, 1) := by decide +kernel
theorem dX7_run_1 : decode cX7_run 1 = .ok (.i2l, 1) := by decide +kernel
theorem dX7_run_2 : decode cX7_run 2 = .ok (.lconst 0, 1) := by decide +kernel
theorem dX7_run_3 : decode cX7_run 3 = .ok (.ldc2_w 116, 3) := by decide +kernel
theorem dX7_run_6 : decode cX7_run 6 = .ok (.invokestatic 43, 3) := by decide +kernel
theorem dX7_run_9 : decode cX7_run 9 = .ok (.ifCond .ne 7, 3) := by decide +kernel
theorem dX7_run_12 : decode cX7_run 12 = .ok (.sipush (-1002), 3) := by decide +kernel
theorem dX7_run_15 : decode cX7_run 15 = .ok (.ireturn, 1) := by decide +kernel
theorem dX7_run_16 : decode cX7_run 16 = .ok (.aload_n 0, 1) := by decide +kernel
theorem dX7_run_17 : decode cX7_run 17 = .ok (.getfield 7, 3) := by decide +kernel
theorem dX7_run_20 : decode cX7_run 20 = .ok (.bipush 85, 2) := by decide +kernel
theorem dX7_run_22 : decode cX7_run 22 = .ok (.iaload, 1) := by decide +kernel
theorem dX7_run_23 : decode cX7_run 23 = .ok (.ifCond .ne 7, 3) := by decide +kernel
theorem dX7_run_26 : decode cX7_run 26 = .ok (.sipush (-1005), 3) := by decide +kernel
theorem dX7_run_29 : decode cX7_run 29 = .ok (.ireturn, 1) := by decide +kernel
theorem dX7_run_30 : decode cX7_run 30 = .ok (.aload_n 0, 1) := by decide +kernel
theorem dX7_run_31 : decode cX7_run 31 = .ok (.invokevirtual 98, 3) := by decide +kernel
theorem dX7_run_34 : decode cX7_run 34 = .ok (.aload_n 0, 1) := by decide +kernel
theorem dX7_run_35 : decode cX7_run 35 = .ok (.iload_n 1, 1) := by decide +kernel
theorem dX7_run_36 : decode cX7_run 36 = .ok (.putfield 49, 3) := by decide +kernel
theorem dX7_run_39 : decode cX7_run 39 = .ok (.aload_n 0, 1) := by decide +kernel
theorem dX7_run_40 : decode cX7_run 40 = .ok (.invokevirtual 127, 3) := by decide +kernel
theorem dX7_run_43 : decode cX7_run 43 = .ok (.istore_n 2, 1) := by decide +kernel
theorem dX7_run_44 : decode cX7_run 44 = .ok (.aload_n 0, 1) := by decide +kernel
theorem dX7_run_45 : decode cX7_run 45 = .ok (.invokevirtual 131, 3) := by decide +kernel
theorem dX7_run_48 : decode cX7_run 48 = .ok (.istore_n 3, 1) := by decide +kernel
theorem dX7_run_49 : decode cX7_run 49 = .ok (.aload_n 0, 1) := by decide +kernel
theorem dX7_run_50 : decode cX7_run 50 = .ok (.invokevirtual 134, 3) := by decide +kernel
theorem dX7_run_53 : decode cX7_run 53 = .ok (.istore 4, 2) := by decide +kernel
theorem dX7_run_55 : decode cX7_run 55 = .ok (.aload_n 0, 1) := by decide +kernel
theorem dX7_run_56 : decode cX7_run 56 = .ok (.iconst 0, 1) := by decide +kernel
theorem dX7_run_57 : decode cX7_run 57 = .ok (.putfield 49, 3) := by decide +kernel
theorem dX7_run_60 : decode cX7_run 60 = .ok (.aload_n 0, 1) := by decide +kernel
theorem dX7_run_61 : decode cX7_run 61 = .ok (.iload_n 2, 1) := by decide +kernel
theorem dX7_run_62 : decode cX7_run 62 = .ok (.invokevirtual 101, 3) := by decide +kernel
theorem dX7_run_65 : decode cX7_run 65 = .ok (.ireturn, 1) := by decide +kernel
theorem dX7_settle_0 : decode cX7_settle 0 = .ok (.aload_n 0, 1) := by decide +kernel
theorem dX7_settle_1 : decode cX7_settle 1 = .ok (.invokevirtual 98, 3) := by decide +kernel
theorem dX7_settle_4 : decode cX7_settle 4 = .ok (.aload_n 0, 1) := by decide +kernel
theorem dX7_settle_5 : decode cX7_settle 5 = .ok (.invokevirtual 131, 3) := by decide +kernel
theorem dX7_settle_8 : decode cX7_settle 8 = .ok (.istore_n 1, 1) := by decide +kernel
theorem dX7_settle_9 : decode cX7_settle 9 = .ok (.iload_n 1, 1) := by decide +kernel
theorem dX7_settle_10 : decode cX7_settle 10 = .ok (.aload_n 0, 1) := by decide +kernel
theorem dX7_settle_11 : decode cX7_settle 11 = .ok (.invokevirtual 134, 3) := by decide +kernel
theorem dX7_settle_14 : decode cX7_settle 14 = .ok (.iadd, 1) := by decide +kernel
theorem dX7_settle_15 : decode cX7_settle 15 = .ok (.istore_n 2, 1) := by decide +kernel
theorem dX7_settle_16 : decode cX7_settle 16 = .ok (.iload_n 2, 1) := by decide +kernel
theorem dX7_settle_17 : decode cX7_settle 17 = .ok (.ifCond .ne 9, 3) := by decide +kernel
theorem dX7_settle_20 : decode cX7_settle 20 = .ok (.sipush (-1005), 3) := by decide +kernel
theorem dX7_settle_23 : decode cX7_settle 23 = .ok (.goto 8, 3) := by decide +kernel
theorem dX7_settle_26 : decode cX7_settle 26 = .ok (.aload_n 0, 1) := by decide +kernel
theorem dX7_settle_27 : decode cX7_settle 27 = .ok (.iload_n 2, 1) := by decide +kernel
theorem dX7_settle_28 : decode cX7_settle 28 = .ok (.invokevirtual 101, 3) := by decide +kernel
theorem dX7_settle_31 : decode cX7_settle 31 = .ok (.ireturn, 1) := by decide +kernel
theorem dX7_type_0 : decode cX7_type 0 = .ok (.aload_n 0, 1) := by decide +kernel
theorem dX7_type_1 : decode cX7_type 1 = .ok (.getfield 137, 3) := by decide +kernel
theorem dX7_type_4 : decode cX7_type 4 = .ok (.bipush 60, 2) := by decide +kernel
theorem dX7_type_6 : decode cX7_type 6 = .ok (.if_icmp .ne 7, 3) := by decide +kernel
theorem dX7_type_9 : decode cX7_type 9 = .ok (.sipush (-1003), 3) := by decide +kernel
theorem dX7_type_12 : decode cX7_type 12 = .ok (.ireturn, 1) := by decide +kernel
theorem dX7_type_13 : decode cX7_type 13 = .ok (.aload_n 0, 1) := by decide +kernel
theorem dX7_type_14 : decode cX7_type 14 = .ok (.getfield 31, 3) := by decide +kernel
theorem dX7_type_17 : decode cX7_type 17 = .ok (.aload_n 0, 1) := by decide +kernel
theorem dX7_type_18 : decode cX7_type 18 = .ok (.getfield 137, 3) := by decide +kernel
theorem dX7_type_21 : decode cX7_type 21 = .ok (.iload_n 1, 1) := by decide +kernel
theorem dX7_type_22 : decode cX7_type 22 = .ok (.iastore, 1) := by decide +kernel
theorem dX7_type_23 : decode cX7_type 23 = .ok (.aload_n 0, 1) := by decide +kernel
theorem dX7_type_24 : decode cX7_type 24 = .ok (.dup, 1) := by decide +kernel
theorem dX7_type_25 : decode cX7_type 25 = .ok (.getfield 137, 3) := by decide +kernel
theorem dX7_type_28 : decode cX7_type 28 = .ok (.iconst 1, 1) := by decide +kernel
theorem dX7_type_29 : decode cX7_type 29 = .ok (.iadd, 1) := by decide +kernel
theorem dX7_type_30 : decode cX7_type 30 = .ok (.putfield 137, 3) := by decide +kernel
theorem dX7_type_33 : decode cX7_type 33 = .ok (.aload_n 0, 1) := by decide +kernel
theorem dX7_type_34 : decode cX7_type 34 = .ok (.getfield 137, 3) := by decide +kernel
theorem dX7_type_37 : decode cX7_type 37 = .ok (.ireturn, 1) := by decide +kernel
theorem dX7_clearText_0 : decode cX7_clearText 0 = .ok (.aload_n 0, 1) := by decide +kernel
theorem dX7_clearText_1 : decode cX7_clearText 1 = .ok (.getfield 137, 3) := by decide +kernel
theorem dX7_clearText_4 : decode cX7_clearText 4 = .ok (.istore_n 1, 1) := by decide +kernel
theorem dX7_clearText_5 : decode cX7_clearText 5 = .ok (.aload_n 0, 1) := by decide +kernel
theorem dX7_clearText_6 : decode cX7_clearText 6 = .ok (.iconst 0, 1) := by decide +kernel
theorem dX7_clearText_7 : decode cX7_clearText 7 = .ok (.putfield 137, 3) := by decide +kernel
theorem dX7_clearText_10 : decode cX7_clearText 10 = .ok (.iload_n 1, 1) := by decide +kernel
theorem dX7_clearText_11 : decode cX7_clearText 11 = .ok (.ireturn, 1) := by decide +kernel
theorem dX7_isHere_0 : decode cX7_isHere 0 = .ok (.aload_n 0, 1) := by decide +kernel
theorem dX7_isHere_1 : decode cX7_isHere 1 = .ok (.getfield 140, 3) := by decide +kernel
theorem dX7_isHere_4 : decode cX7_isHere 4 = .ok (.aload_n 0, 1) := by decide +kernel
theorem dX7_isHere_5 : decode cX7_isHere 5 = .ok (.getfield 137, 3) := by decide +kernel
theorem dX7_isHere_8 : decode cX7_isHere 8 = .ok (.if_icmp .ge 27, 3) := by decide +kernel
theorem dX7_isHere_11 : decode cX7_isHere 11 = .ok (.aload_n 0, 1) := by decide +kernel
theorem dX7_isHere_12 : decode cX7_isHere 12 = .ok (.getfield 31, 3) := by decide +kernel
theorem dX7_isHere_15 : decode cX7_isHere 15 = .ok (.aload_n 0, 1) := by decide +kernel
theorem dX7_isHere_16 : decode cX7_isHere 16 = .ok (.getfield 140, 3) := by decide +kernel
theorem dX7_isHere_19 : decode cX7_isHere 19 = .ok (.iaload, 1) := by decide +kernel
theorem dX7_isHere_20 : decode cX7_isHere 20 = .ok (.i2l, 1) := by decide +kernel
theorem dX7_isHere_21 : decode cX7_isHere 21 = .ok (.iload_n 1, 1) := by decide +kernel
theorem dX7_isHere_22 : decode cX7_isHere 22 = .ok (.i2l, 1) := by decide +kernel
theorem dX7_isHere_23 : decode cX7_isHere 23 = .ok (.iload_n 2, 1) := by decide +kernel
theorem dX7_isHere_24 : decode cX7_isHere 24 = .ok (.i2l, 1) := by decide +kernel
theorem dX7_isHere_25 : decode cX7_isHere 25 = .ok (.invokestatic 43, 3) := by decide +kernel
theorem dX7_isHere_28 : decode cX7_isHere 28 = .ok (.ifCond .eq 7, 3) := by decide +kernel
theorem dX7_isHere_31 : decode cX7_isHere 31 = .ok (.iconst 1, 1) := by decide +kernel
theorem dX7_isHere_32 : decode cX7_isHere 32 = .ok (.goto 4, 3) := by decide +kernel
theorem dX7_isHere_35 : decode cX7_isHere 35 = .ok (.iconst 0, 1) := by decide +kernel
theorem dX7_isHere_36 : decode cX7_isHere 36 = .ok (.ireturn, 1) := by decide +kernel
theorem dX7_takes_0 : decode cX7_takes 0 = .ok (.aload_n 0, 1) := by decide +kernel
theorem dX7_takes_1 : decode cX7_takes 1 = .ok (.iload_n 1, 1) := by decide +kernel
theorem dX7_takes_2 : decode cX7_takes 2 = .ok (.iload_n 1, 1) := by decide +kernel
theorem dX7_takes_3 : decode cX7_takes 3 = .ok (.invokevirtual 143, 3) := by decide +kernel
theorem dX7_takes_6 : decode cX7_takes 6 = .ok (.istore_n 2, 1) := by decide +kernel
theorem dX7_takes_7 : decode cX7_takes 7 = .ok (.aload_n 0, 1) := by decide +kernel
theorem dX7_takes_8 : decode cX7_takes 8 = .ok (.dup, 1) := by decide +kernel
theorem dX7_takes_9 : decode cX7_takes 9 = .ok (.getfield 140, 3) := by decide +kernel
theorem dX7_takes_12 : decode cX7_takes 12 = .ok (.iload_n 2, 1) := by decide +kernel
theorem dX7_takes_13 : decode cX7_takes 13 = .ok (.ifCond .eq 7, 3) := by decide +kernel
theorem dX7_takes_16 : decode cX7_takes 16 = .ok (.iconst 1, 1) := by decide +kernel
theorem dX7_takes_17 : decode cX7_takes 17 = .ok (.goto 4, 3) := by decide +kernel
theorem dX7_takes_20 : decode cX7_takes 20 = .ok (.iconst 0, 1) := by decide +kernel
theorem dX7_takes_21 : decode cX7_takes 21 = .ok (.iadd, 1) := by decide +kernel
theorem dX7_takes_22 : decode cX7_takes 22 = .ok (.putfield 140, 3) := by decide +kernel
theorem dX7_takes_25 : decode cX7_takes 25 = .ok (.iload_n 2, 1) := by decide +kernel
theorem dX7_takes_26 : decode cX7_takes 26 = .ok (.ireturn, 1) := by decide +kernel
theorem dX7_readsDigit_0 : decode cX7_readsDigit 0 = .ok (.aload_n 0, 1) := by decide +kernel
theorem dX7_readsDigit_1 : decode cX7_readsDigit 1 = .ok (.iload_n 1, 1) := by decide +kernel
theorem dX7_readsDigit_2 : decode cX7_readsDigit 2 = .ok (.iload_n 2, 1) := by decide +kernel
theorem dX7_readsDigit_3 : decode cX7_readsDigit 3 = .ok (.invokevirtual 143, 3) := by decide +kernel
theorem dX7_readsDigit_6 : decode cX7_readsDigit 6 = .ok (.ifCond .ne 5, 3) := by decide +kernel
theorem dX7_readsDigit_9 : decode cX7_readsDigit 9 = .ok (.iconst 0, 1) := by decide +kernel
theorem dX7_readsDigit_10 : decode cX7_readsDigit 10 = .ok (.ireturn, 1) := by decide +kernel
theorem dX7_readsDigit_11 : decode cX7_readsDigit 11 = .ok (.aload_n 0, 1) := by decide +kernel
theorem dX7_readsDigit_12 : decode cX7_readsDigit 12 = .ok (.getfield 34, 3) := by decide +kernel
theorem dX7_readsDigit_15 : decode cX7_readsDigit 15 = .ok (.iconst 3, 1) := by decide +kernel
theorem dX7_readsDigit_16 : decode cX7_readsDigit 16 = .ok (.aload_n 0, 1) := by decide +kernel
theorem dX7_readsDigit_17 : decode cX7_readsDigit 17 = .ok (.getfield 146, 3) := by decide +kernel
theorem dX7_readsDigit_20 : decode cX7_readsDigit 20 = .ok (.imul, 1) := by decide +kernel
theorem dX7_readsDigit_21 : decode cX7_readsDigit 21 = .ok (.iload_n 3, 1) := by decide +kernel
theorem dX7_readsDigit_22 : decode cX7_readsDigit 22 = .ok (.iadd, 1) := by decide +kernel
theorem dX7_readsDigit_23 : decode cX7_readsDigit 23 = .ok (.aload_n 0, 1) := by decide +kernel
theorem dX7_readsDigit_24 : decode cX7_readsDigit 24 = .ok (.getfield 31, 3) := by decide +kernel
theorem dX7_readsDigit_27 : decode cX7_readsDigit 27 = .ok (.aload_n 0, 1) := by decide +kernel
theorem dX7_readsDigit_28 : decode cX7_readsDigit 28 = .ok (.getfield 140, 3) := by decide +kernel
theorem dX7_readsDigit_31 : decode cX7_readsDigit 31 = .ok (.iaload, 1) := by decide +kernel
theorem dX7_readsDigit_32 : decode cX7_readsDigit 32 = .ok (.bipush 48, 2) := by decide +kernel
theorem dX7_readsDigit_34 : decode cX7_readsDigit 34 = .ok (.isub, 1) := by decide +kernel
theorem dX7_readsDigit_35 : decode cX7_readsDigit 35 = .ok (.iastore, 1) := by decide +kernel
theorem dX7_readsDigit_36 : decode cX7_readsDigit 36 = .ok (.aload_n 0, 1) := by decide +kernel
theorem dX7_readsDigit_37 : decode cX7_readsDigit 37 = .ok (.dup, 1) := by decide +kernel
theorem dX7_readsDigit_38 : decode cX7_readsDigit 38 = .ok (.getfield 140, 3) := by decide +kernel
theorem dX7_readsDigit_41 : decode cX7_readsDigit 41 = .ok (.iconst 1, 1) := by decide +kernel
theorem dX7_readsDigit_42 : decode cX7_readsDigit 42 = .ok (.iadd, 1) := by decide +kernel
theorem dX7_readsDigit_43 : decode cX7_readsDigit 43 = .ok (.putfield 140, 3) := by decide +kernel
theorem dX7_readsDigit_46 : decode cX7_readsDigit 46 = .ok (.iconst 1, 1) := by decide +kernel
theorem dX7_readsDigit_47 : decode cX7_readsDigit 47 = .ok (.ireturn, 1) := by decide +kernel
theorem dX7_readsGroup_0 : decode cX7_readsGroup 0 = .ok (.aload_n 0, 1) := by decide +kernel
theorem dX7_readsGroup_1 : decode cX7_readsGroup 1 = .ok (.bipush 48, 2) := by decide +kernel
theorem dX7_readsGroup_3 : decode cX7_readsGroup 3 = .ok (.bipush 51, 2) := by decide +kernel
theorem dX7_readsGroup_5 : decode cX7_readsGroup 5 = .ok (.iconst 0, 1) := by decide +kernel
theorem dX7_readsGroup_6 : decode cX7_readsGroup 6 = .ok (.invokevirtual 149, 3) := by decide +kernel
theorem dX7_readsGroup_9 : decode cX7_readsGroup 9 = .ok (.ifCond .eq 24, 3) := by decide +kernel
theorem dX7_readsGroup_12 : decode cX7_readsGroup 12 = .ok (.aload_n 0, 1) := by decide +kernel
theorem dX7_readsGroup_13 : decode cX7_readsGroup 13 = .ok (.bipush 104, 2) := by decide +kernel
theorem dX7_readsGroup_15 : decode cX7_readsGroup 15 = .ok (.invokevirtual 152, 3) := by decide +kernel
theorem dX7_readsGroup_18 : decode cX7_readsGroup 18 = .ok (.ifCond .eq 15, 3) := by decide +kernel
theorem dX7_readsGroup_21 : decode cX7_readsGroup 21 = .ok (.aload_n 0, 1) := by decide +kernel
theorem dX7_readsGroup_22 : decode cX7_readsGroup 22 = .ok (.bipush 49, 2) := by decide +kernel
theorem dX7_readsGroup_24 : decode cX7_readsGroup 24 = .ok (.bipush 57, 2) := by decide +kernel
theorem dX7_readsGroup_26 : decode cX7_readsGroup 26 = .ok (.iconst 1, 1) := by decide +kernel
theorem dX7_readsGroup_27 : decode cX7_readsGroup 27 = .ok (.invokevirtual 149, 3) := by decide +kernel
theorem dX7_readsGroup_30 : decode cX7_readsGroup 30 = .ok (.ifCond .ne 5, 3) := by decide +kernel
theorem dX7_readsGroup_33 : decode cX7_readsGroup 33 = .ok (.iconst 0, 1) := by decide +kernel
theorem dX7_readsGroup_34 : decode cX7_readsGroup 34 = .ok (.ireturn, 1) := by decide +kernel
theorem dX7_readsGroup_35 : decode cX7_readsGroup 35 = .ok (.aload_n 0, 1) := by decide +kernel
theorem dX7_readsGroup_36 : decode cX7_readsGroup 36 = .ok (.getfield 34, 3) := by decide +kernel
theorem dX7_readsGroup_39 : decode cX7_readsGroup 39 = .ok (.iconst 3, 1) := by decide +kernel
theorem dX7_readsGroup_40 : decode cX7_readsGroup 40 = .ok (.aload_n 0, 1) := by decide +kernel
theorem dX7_readsGroup_41 : decode cX7_readsGroup 41 = .ok (.getfield 146, 3) := by decide +kernel
theorem dX7_readsGroup_44 : decode cX7_readsGroup 44 = .ok (.imul, 1) := by decide +kernel
theorem dX7_readsGroup_45 : decode cX7_readsGroup 45 = .ok (.iconst 1, 1) := by decide +kernel
theorem dX7_readsGroup_46 : decode cX7_readsGroup 46 = .ok (.iadd, 1) := by decide +kernel
theorem dX7_readsGroup_47 : decode cX7_readsGroup 47 = .ok (.iaload, 1) := by decide +kernel
theorem dX7_readsGroup_48 : decode cX7_readsGroup 48 = .ok (.istore_n 1, 1) := by decide +kernel
theorem dX7_readsGroup_49 : decode cX7_readsGroup 49 = .ok (.aload_n 0, 1) := by decide +kernel
theorem dX7_readsGroup_50 : decode cX7_readsGroup 50 = .ok (.bipush 48, 2) := by decide +kernel
theorem dX7_readsGroup_52 : decode cX7_readsGroup 52 = .ok (.bipush 57, 2) := by decide +kernel
theorem dX7_readsGroup_54 : decode cX7_readsGroup 54 = .ok (.invokevirtual 143, 3) := by decide +kernel
theorem dX7_readsGroup_57 : decode cX7_readsGroup 57 = .ok (.ifCond .eq 65, 3) := by decide +kernel
theorem dX7_readsGroup_60 : decode cX7_readsGroup 60 = .ok (.bipush 10, 2) := by decide +kernel
theorem dX7_readsGroup_62 : decode cX7_readsGroup 62 = .ok (.iload_n 1, 1) := by decide +kernel
theorem dX7_readsGroup_63 : decode cX7_readsGroup 63 = .ok (.imul, 1) := by decide +kernel
theorem dX7_readsGroup_64 : decode cX7_readsGroup 64 = .ok (.aload_n 0, 1) := by decide +kernel
theorem dX7_readsGroup_65 : decode cX7_readsGroup 65 = .ok (.getfield 31, 3) := by decide +kernel
theorem dX7_readsGroup_68 : decode cX7_readsGroup 68 = .ok (.aload_n 0, 1) := by decide +kernel
theorem dX7_readsGroup_69 : decode cX7_readsGroup 69 = .ok (.getfield 140, 3) := by decide +kernel
theorem dX7_readsGroup_72 : decode cX7_readsGroup 72 = .ok (.iaload, 1) := by decide +kernel
theorem dX7_readsGroup_73 : decode cX7_readsGroup 73 = .ok (.iadd, 1) := by decide +kernel
theorem dX7_readsGroup_74 : decode cX7_readsGroup 74 = .ok (.bipush 48, 2) := by decide +kernel
theorem dX7_readsGroup_76 : decode cX7_readsGroup 76 = .ok (.isub, 1) := by decide +kernel
theorem dX7_readsGroup_77 : decode cX7_readsGroup 77 = .ok (.bipush 20, 2) := by decide +kernel
theorem dX7_readsGroup_79 : decode cX7_readsGroup 79 = .ok (.if_icmp .gt 43, 3) := by decide +kernel
theorem dX7_readsGroup_82 : decode cX7_readsGroup 82 = .ok (.aload_n 0, 1) := by decide +kernel
theorem dX7_readsGroup_83 : decode cX7_readsGroup 83 = .ok (.getfield 34, 3) := by decide +kernel
theorem dX7_readsGroup_86 : decode cX7_readsGroup 86 = .ok (.iconst 3, 1) := by decide +kernel
theorem dX7_readsGroup_87 : decode cX7_readsGroup 87 = .ok (.aload_n 0, 1) := by decide +kernel
theorem dX7_readsGroup_88 : decode cX7_readsGroup 88 = .ok (.getfield 146, 3) := by decide +kernel
theorem dX7_readsGroup_91 : decode cX7_readsGroup 91 = .ok (.imul, 1) := by decide +kernel
theorem dX7_readsGroup_92 : decode cX7_readsGroup 92 = .ok (.iconst 1, 1) := by decide +kernel
theorem dX7_readsGroup_93 : decode cX7_readsGroup 93 = .ok (.iadd, 1) := by decide +kernel
theorem dX7_readsGroup_94 : decode cX7_readsGroup 94 = .ok (.bipush 10, 2) := by decide +kernel
theorem dX7_readsGroup_96 : decode cX7_readsGroup 96 = .ok (.iload_n 1, 1) := by decide +kernel
theorem dX7_readsGroup_97 : decode cX7_readsGroup 97 = .ok (.imul, 1) := by decide +kernel
theorem dX7_readsGroup_98 : decode cX7_readsGroup 98 = .ok (.aload_n 0, 1) := by decide +kernel
theorem dX7_readsGroup_99 : decode cX7_readsGroup 99 = .ok (.getfield 31, 3) := by decide +kernel
theorem dX7_readsGroup_102 : decode cX7_readsGroup 102 = .ok (.aload_n 0, 1) := by decide +kernel
theorem dX7_readsGroup_103 : decode cX7_readsGroup 103 = .ok (.getfield 140, 3) := by decide +kernel
theorem dX7_readsGroup_106 : decode cX7_readsGroup 106 = .ok (.iaload, 1) := by decide +kernel
theorem dX7_readsGroup_107 : decode cX7_readsGroup 107 = .ok (.iadd, 1) := by decide +kernel
theorem dX7_readsGroup_108 : decode cX7_readsGroup 108 = .ok (.bipush 48, 2) := by decide +kernel
theorem dX7_readsGroup_110 : decode cX7_readsGroup 110 = .ok (.isub, 1) := by decide +kernel
theorem dX7_readsGroup_111 : decode cX7_readsGroup 111 = .ok (.iastore, 1) := by decide +kernel
theorem dX7_readsGroup_112 : decode cX7_readsGroup 112 = .ok (.aload_n 0, 1) := by decide +kernel
theorem dX7_readsGroup_113 : decode cX7_readsGroup 113 = .ok (.dup, 1) := by decide +kernel
theorem dX7_readsGroup_114 : decode cX7_readsGroup 114 = .ok (.getfield 140, 3) := by decide +kernel
theorem dX7_readsGroup_117 : decode cX7_readsGroup 117 = .ok (.iconst 1, 1) := by decide +kernel
theorem dX7_readsGroup_118 : decode cX7_readsGroup 118 = .ok (.iadd, 1) := by decide +kernel
theorem dX7_readsGroup_119 : decode cX7_readsGroup 119 = .ok (.putfield 140, 3) := by decide +kernel
theorem dX7_readsGroup_122 : decode cX7_readsGroup 122 = .ok (.aload_n 0, 1) := by decide +kernel
theorem dX7_readsGroup_123 : decode cX7_readsGroup 123 = .ok (.getfield 34, 3) := by decide +kernel
theorem dX7_readsGroup_126 : decode cX7_readsGroup 126 = .ok (.iconst 3, 1) := by decide +kernel
theorem dX7_readsGroup_127 : decode cX7_readsGroup 127 = .ok (.aload_n 0, 1) := by decide +kernel
theorem dX7_readsGroup_128 : decode cX7_readsGroup 128 = .ok (.getfield 146, 3) := by decide +kernel
theorem dX7_readsGroup_131 : decode cX7_readsGroup 131 = .ok (.imul, 1) := by decide +kernel
theorem dX7_readsGroup_132 : decode cX7_readsGroup 132 = .ok (.iconst 2, 1) := by decide +kernel
theorem dX7_readsGroup_133 : decode cX7_readsGroup 133 = .ok (.iadd, 1) := by decide +kernel
theorem dX7_readsGroup_134 : decode cX7_readsGroup 134 = .ok (.iconst 1, 1) := by decide +kernel
theorem dX7_readsGroup_135 : decode cX7_readsGroup 135 = .ok (.iastore, 1) := by decide +kernel
theorem dX7_readsGroup_136 : decode cX7_readsGroup 136 = .ok (.aload_n 0, 1) := by decide +kernel
theorem dX7_readsGroup_137 : decode cX7_readsGroup 137 = .ok (.bipush 120, 2) := by decide +kernel
theorem dX7_readsGroup_139 : decode cX7_readsGroup 139 = .ok (.invokevirtual 152, 3) := by decide +kernel
theorem dX7_readsGroup_142 : decode cX7_readsGroup 142 = .ok (.ifCond .eq 17, 3) := by decide +kernel
theorem dX7_readsGroup_145 : decode cX7_readsGroup 145 = .ok (.aload_n 0, 1) := by decide +kernel
theorem dX7_readsGroup_146 : decode cX7_readsGroup 146 = .ok (.bipush 50, 2) := by decide +kernel
theorem dX7_readsGroup_148 : decode cX7_readsGroup 148 = .ok (.bipush 57, 2) := by decide +kernel
theorem dX7_readsGroup_150 : decode cX7_readsGroup 150 = .ok (.iconst 2, 1) := by decide +kernel
theorem dX7_readsGroup_151 : decode cX7_readsGroup 151 = .ok (.invokevirtual 149, 3) := by decide +kernel
theorem dX7_readsGroup_154 : decode cX7_readsGroup 154 = .ok (.ifCond .ne 5, 3) := by decide +kernel
theorem dX7_readsGroup_157 : decode cX7_readsGroup 157 = .ok (.iconst 0, 1) := by decide +kernel
theorem dX7_readsGroup_158 : decode cX7_readsGroup 158 = .ok (.ireturn, 1) := by decide +kernel
theorem dX7_readsGroup_159 : decode cX7_readsGroup 159 = .ok (.aload_n 0, 1) := by decide +kernel
theorem dX7_readsGroup_160 : decode cX7_readsGroup 160 = .ok (.dup, 1) := by decide +kernel
theorem dX7_readsGroup_161 : decode cX7_readsGroup 161 = .ok (.getfield 155, 3) := by decide +kernel
theorem dX7_readsGroup_164 : decode cX7_readsGroup 164 = .ok (.aload_n 0, 1) := by decide +kernel
theorem dX7_readsGroup_165 : decode cX7_readsGroup 165 = .ok (.getfield 34, 3) := by decide +kernel
theorem dX7_readsGroup_168 : decode cX7_readsGroup 168 = .ok (.iconst 3, 1) := by decide +kernel
theorem dX7_readsGroup_169 : decode cX7_readsGroup 169 = .ok (.aload_n 0, 1) := by decide +kernel
theorem dX7_readsGroup_170 : decode cX7_readsGroup 170 = .ok (.getfield 146, 3) := by decide +kernel
theorem dX7_readsGroup_173 : decode cX7_readsGroup 173 = .ok (.imul, 1) := by decide +kernel
theorem dX7_readsGroup_174 : decode cX7_readsGroup 174 = .ok (.iconst 2, 1) := by decide +kernel
theorem dX7_readsGroup_175 : decode cX7_readsGroup 175 = .ok (.iadd, 1) := by decide +kernel
theorem dX7_readsGroup_176 : decode cX7_readsGroup 176 = .ok (.iaload, 1) := by decide +kernel
theorem dX7_readsGroup_177 : decode cX7_readsGroup 177 = .ok (.iadd, 1) := by decide +kernel
theorem dX7_readsGroup_178 : decode cX7_readsGroup 178 = .ok (.putfield 155, 3) := by decide +kernel
theorem dX7_readsGroup_181 : decode cX7_readsGroup 181 = .ok (.aload_n 0, 1) := by decide +kernel
theorem dX7_readsGroup_182 : decode cX7_readsGroup 182 = .ok (.dup, 1) := by decide +kernel
theorem dX7_readsGroup_183 : decode cX7_readsGroup 183 = .ok (.getfield 146, 3) := by decide +kernel
theorem dX7_readsGroup_186 : decode cX7_readsGroup 186 = .ok (.iconst 1, 1) := by decide +kernel
theorem dX7_readsGroup_187 : decode cX7_readsGroup 187 = .ok (.iadd, 1) := by decide +kernel
theorem dX7_readsGroup_188 : decode cX7_readsGroup 188 = .ok (.putfield 146, 3) := by decide +kernel
theorem dX7_readsGroup_191 : decode cX7_readsGroup 191 = .ok (.iconst 1, 1) := by decide +kernel
theorem dX7_readsGroup_192 : decode cX7_readsGroup 192 = .ok (.ireturn, 1) := by decide +kernel
theorem dX7_fault_0 : decode cX7_fault 0 = .ok (.aload_n 0, 1) := by decide +kernel
theorem dX7_fault_1 : decode cX7_fault 1 = .ok (.iconst 0, 1) := by decide +kernel
theorem dX7_fault_2 : decode cX7_fault 2 = .ok (.putfield 140, 3) := by decide +kernel
theorem dX7_fault_5 : decode cX7_fault 5 = .ok (.aload_n 0, 1) := by decide +kernel
theorem dX7_fault_6 : decode cX7_fault 6 = .ok (.iconst 0, 1) := by decide +kernel
theorem dX7_fault_7 : decode cX7_fault 7 = .ok (.putfield 146, 3) := by decide +kernel
theorem dX7_fault_10 : decode cX7_fault 10 = .ok (.aload_n 0, 1) := by decide +kernel
theorem dX7_fault_11 : decode cX7_fault 11 = .ok (.iconst 0, 1) := by decide +kernel
theorem dX7_fault_12 : decode cX7_fault 12 = .ok (.putfield 155, 3) := by decide +kernel
theorem dX7_fault_15 : decode cX7_fault 15 = .ok (.iconst 1, 1) := by decide +kernel
theorem dX7_fault_16 : decode cX7_fault 16 = .ok (.istore_n 1, 1) := by decide +kernel
theorem dX7_fault_17 : decode cX7_fault 17 = .ok (.iload_n 1, 1) := by decide +kernel
theorem dX7_fault_18 : decode cX7_fault 18 = .ok (.ifCond .eq 25, 3) := by decide +kernel
theorem dX7_fault_21 : decode cX7_fault 21 = .ok (.aload_n 0, 1) := by decide +kernel
theorem dX7_fault_22 : decode cX7_fault 22 = .ok (.invokevirtual 158, 3) := by decide +kernel
theorem dX7_fault_25 : decode cX7_fault 25 = .ok (.ifCond .ne 8, 3) := by decide +kernel
theorem dX7_fault_28 : decode cX7_fault 28 = .ok (.aload_n 0, 1) := by decide +kernel
theorem dX7_fault_29 : decode cX7_fault 29 = .ok (.getfield 140, 3) := by decide +kernel
theorem dX7_fault_32 : decode cX7_fault 32 = .ok (.ireturn, 1) := by decide +kernel
theorem dX7_fault_33 : decode cX7_fault 33 = .ok (.aload_n 0, 1) := by decide +kernel
theorem dX7_fault_34 : decode cX7_fault 34 = .ok (.bipush 44, 2) := by decide +kernel
theorem dX7_fault_36 : decode cX7_fault 36 = .ok (.invokevirtual 152, 3) := by decide +kernel
theorem dX7_fault_39 : decode cX7_fault 39 = .ok (.istore_n 1, 1) := by decide +kernel
theorem dX7_fault_40 : decode cX7_fault 40 = .ok (.goto (-23), 3) := by decide +kernel
theorem dX7_fault_43 : decode cX7_fault 43 = .ok (.aload_n 0, 1) := by decide +kernel
theorem dX7_fault_44 : decode cX7_fault 44 = .ok (.getfield 140, 3) := by decide +kernel
theorem dX7_fault_47 : decode cX7_fault 47 = .ok (.aload_n 0, 1) := by decide +kernel
theorem dX7_fault_48 : decode cX7_fault 48 = .ok (.getfield 137, 3) := by decide +kernel
theorem dX7_fault_51 : decode cX7_fault 51 = .ok (.if_icmp .ne 9, 3) := by decide +kernel
theorem dX7_fault_54 : decode cX7_fault 54 = .ok (.sipush (-1005), 3) := by decide +kernel
theorem dX7_fault_57 : decode cX7_fault 57 = .ok (.goto 7, 3) := by decide +kernel
theorem dX7_fault_60 : decode cX7_fault 60 = .ok (.aload_n 0, 1) := by decide +kernel
theorem dX7_fault_61 : decode cX7_fault 61 = .ok (.getfield 140, 3) := by decide +kernel
theorem dX7_fault_64 : decode cX7_fault 64 = .ok (.ireturn, 1) := by decide +kernel
theorem dX7_waveAll_0 : decode cX7_waveAll 0 = .ok (.aload_n 0, 1) := by decide +kernel
theorem dX7_waveAll_1 : decode cX7_waveAll 1 = .ok (.invokevirtual 162, 3) := by decide +kernel
theorem dX7_waveAll_4 : decode cX7_waveAll 4 = .ok (.istore_n 1, 1) := by decide +kernel
theorem dX7_waveAll_5 : decode cX7_waveAll 5 = .ok (.iload_n 1, 1) := by decide +kernel
theorem dX7_waveAll_6 : decode cX7_waveAll 6 = .ok (.sipush (-1005), 3) := by decide +kernel
theorem dX7_waveAll_9 : decode cX7_waveAll 9 = .ok (.if_icmp .eq 9, 3) := by decide +kernel
theorem dX7_waveAll_12 : decode cX7_waveAll 12 = .ok (.sipush (-2000), 3) := by decide +kernel
theorem dX7_waveAll_15 : decode cX7_waveAll 15 = .ok (.iload_n 1, 1) := by decide +kernel
theorem dX7_waveAll_16 : decode cX7_waveAll 16 = .ok (.isub, 1) := by decide +kernel
theorem dX7_waveAll_17 : decode cX7_waveAll 17 = .ok (.ireturn, 1) := by decide +kernel
theorem dX7_waveAll_18 : decode cX7_waveAll 18 = .ok (.aload_n 0, 1) := by decide +kernel
theorem dX7_waveAll_19 : decode cX7_waveAll 19 = .ok (.getfield 7, 3) := by decide +kernel
theorem dX7_waveAll_22 : decode cX7_waveAll 22 = .ok (.bipush 85, 2) := by decide +kernel
theorem dX7_waveAll_24 : decode cX7_waveAll 24 = .ok (.iaload, 1) := by decide +kernel
theorem dX7_waveAll_25 : decode cX7_waveAll 25 = .ok (.aload_n 0, 1) := by decide +kernel
theorem dX7_waveAll_26 : decode cX7_waveAll 26 = .ok (.getfield 155, 3) := by decide +kernel
theorem dX7_waveAll_29 : decode cX7_waveAll 29 = .ok (.iadd, 1) := by decide +kernel
theorem dX7_waveAll_30 : decode cX7_waveAll 30 = .ok (.bipush 24, 2) := by decide +kernel
theorem dX7_waveAll_32 : decode cX7_waveAll 32 = .ok (.if_icmp .le 7, 3) := by decide +kernel
theorem dX7_waveAll_35 : decode cX7_waveAll 35 = .ok (.sipush (-1003), 3) := by decide +kernel
theorem dX7_waveAll_38 : decode cX7_waveAll 38 = .ok (.ireturn, 1) := by decide +kernel
theorem dX7_waveAll_39 : decode cX7_waveAll 39 = .ok (.aload_n 0, 1) := by decide +kernel
theorem dX7_waveAll_40 : decode cX7_waveAll 40 = .ok (.invokevirtual 98, 3) := by decide +kernel
theorem dX7_waveAll_43 : decode cX7_waveAll 43 = .ok (.iconst 0, 1) := by decide +kernel
theorem dX7_waveAll_44 : decode cX7_waveAll 44 = .ok (.istore_n 2, 1) := by decide +kernel
theorem dX7_waveAll_45 : decode cX7_waveAll 45 = .ok (.iload_n 2, 1) := by decide +kernel
theorem dX7_waveAll_46 : decode cX7_waveAll 46 = .ok (.iconst 3, 1) := by decide +kernel
theorem dX7_waveAll_47 : decode cX7_waveAll 47 = .ok (.aload_n 0, 1) := by decide +kernel
theorem dX7_waveAll_48 : decode cX7_waveAll 48 = .ok (.getfield 146, 3) := by decide +kernel
theorem dX7_waveAll_51 : decode cX7_waveAll 51 = .ok (.imul, 1) := by decide +kernel
theorem dX7_waveAll_52 : decode cX7_waveAll 52 = .ok (.if_icmp .ge 47, 3) := by decide +kernel
theorem dX7_waveAll_55 : decode cX7_waveAll 55 = .ok (.iconst 0, 1) := by decide +kernel
theorem dX7_waveAll_56 : decode cX7_waveAll 56 = .ok (.istore_n 3, 1) := by decide +kernel
theorem dX7_waveAll_57 : decode cX7_waveAll 57 = .ok (.iload_n 3, 1) := by decide +kernel
theorem dX7_waveAll_58 : decode cX7_waveAll 58 = .ok (.aload_n 0, 1) := by decide +kernel
theorem dX7_waveAll_59 : decode cX7_waveAll 59 = .ok (.getfield 34, 3) := by decide +kernel
theorem dX7_waveAll_62 : decode cX7_waveAll 62 = .ok (.iload_n 2, 1) := by decide +kernel
theorem dX7_waveAll_63 : decode cX7_waveAll 63 = .ok (.iconst 2, 1) := by decide +kernel
theorem dX7_waveAll_64 : decode cX7_waveAll 64 = .ok (.iadd, 1) := by decide +kernel
theorem dX7_waveAll_65 : decode cX7_waveAll 65 = .ok (.iaload, 1) := by decide +kernel
theorem dX7_waveAll_66 : decode cX7_waveAll 66 = .ok (.if_icmp .ge 27, 3) := by decide +kernel
theorem dX7_waveAll_69 : decode cX7_waveAll 69 = .ok (.aload_n 0, 1) := by decide +kernel
theorem dX7_waveAll_70 : decode cX7_waveAll 70 = .ok (.aload_n 0, 1) := by decide +kernel
theorem dX7_waveAll_71 : decode cX7_waveAll 71 = .ok (.getfield 34, 3) := by decide +kernel
theorem dX7_waveAll_74 : decode cX7_waveAll 74 = .ok (.iload_n 2, 1) := by decide +kernel
theorem dX7_waveAll_75 : decode cX7_waveAll 75 = .ok (.iaload, 1) := by decide +kernel
theorem dX7_waveAll_76 : decode cX7_waveAll 76 = .ok (.aload_n 0, 1) := by decide +kernel
theorem dX7_waveAll_77 : decode cX7_waveAll 77 = .ok (.getfield 34, 3) := by decide +kernel
theorem dX7_waveAll_80 : decode cX7_waveAll 80 = .ok (.iload_n 2, 1) := by decide +kernel
theorem dX7_waveAll_81 : decode cX7_waveAll 81 = .ok (.iconst 1, 1) := by decide +kernel
theorem dX7_waveAll_82 : decode cX7_waveAll 82 = .ok (.iadd, 1) := by decide +kernel
theorem dX7_waveAll_83 : decode cX7_waveAll 83 = .ok (.iaload, 1) := by decide +kernel
theorem dX7_waveAll_84 : decode cX7_waveAll 84 = .ok (.invokevirtual 124, 3) := by decide +kernel
theorem dX7_waveAll_87 : decode cX7_waveAll 87 = .ok (.iinc 3 1, 3) := by decide +kernel
theorem dX7_waveAll_90 : decode cX7_waveAll 90 = .ok (.goto (-33), 3) := by decide +kernel
theorem dX7_waveAll_93 : decode cX7_waveAll 93 = .ok (.iinc 2 3, 3) := by decide +kernel
theorem dX7_waveAll_96 : decode cX7_waveAll 96 = .ok (.goto (-51), 3) := by decide +kernel
theorem dX7_waveAll_99 : decode cX7_waveAll 99 = .ok (.aload_n 0, 1) := by decide +kernel
theorem dX7_waveAll_100 : decode cX7_waveAll 100 = .ok (.aload_n 0, 1) := by decide +kernel
theorem dX7_waveAll_101 : decode cX7_waveAll 101 = .ok (.getfield 155, 3) := by decide +kernel
theorem dX7_waveAll_104 : decode cX7_waveAll 104 = .ok (.invokevirtual 101, 3) := by decide +kernel
theorem dX7_waveAll_107 : decode cX7_waveAll 107 = .ok (.ireturn, 1) := by decide +kernel
theorem dX7_undo_0 : decode cX7_undo 0 = .ok (.aload_n 0, 1) := by decide +kernel
theorem dX7_undo_1 : decode cX7_undo 1 = .ok (.getfield 37, 3) := by decide +kernel
theorem dX7_undo_4 : decode cX7_undo 4 = .ok (.ifCond .ne 7, 3) := by decide +kernel
theorem dX7_undo_7 : decode cX7_undo 7 = .ok (.sipush (-1005), 3) := by decide +kernel
theorem dX7_undo_10 : decode cX7_undo 10 = .ok (.ireturn, 1) := by decide +kernel
theorem dX7_undo_11 : decode cX7_undo 11 = .ok (.aload_n 0, 1) := by decide +kernel
theorem dX7_undo_12 : decode cX7_undo 12 = .ok (.dup, 1) := by decide +kernel
theorem dX7_undo_13 : decode cX7_undo 13 = .ok (.getfield 37, 3) := by decide +kernel
theorem dX7_undo_16 : decode cX7_undo 16 = .ok (.iconst 1, 1) := by decide +kernel
theorem dX7_undo_17 : decode cX7_undo 17 = .ok (.isub, 1) := by decide +kernel
theorem dX7_undo_18 : decode cX7_undo 18 = .ok (.putfield 37, 3) := by decide +kernel
theorem dX7_undo_21 : decode cX7_undo 21 = .ok (.iconst 0, 1) := by decide +kernel
theorem dX7_undo_22 : decode cX7_undo 22 = .ok (.istore_n 1, 1) := by decide +kernel
theorem dX7_undo_23 : decode cX7_undo 23 = .ok (.iload_n 1, 1) := by decide +kernel
theorem dX7_undo_24 : decode cX7_undo 24 = .ok (.sipush 311, 3) := by decide +kernel
theorem dX7_undo_27 : decode cX7_undo 27 = .ok (.if_icmp .ge 30, 3) := by decide +kernel
theorem dX7_undo_30 : decode cX7_undo 30 = .ok (.aload_n 0, 1) := by decide +kernel
theorem dX7_undo_31 : decode cX7_undo 31 = .ok (.getfield 7, 3) := by decide +kernel
theorem dX7_undo_34 : decode cX7_undo 34 = .ok (.iload_n 1, 1) := by decide +kernel
theorem dX7_undo_35 : decode cX7_undo 35 = .ok (.aload_n 0, 1) := by decide +kernel
theorem dX7_undo_36 : decode cX7_undo 36 = .ok (.getfield 16, 3) := by decide +kernel
theorem dX7_undo_39 : decode cX7_undo 39 = .ok (.sipush 311, 3) := by decide +kernel
theorem dX7_undo_42 : decode cX7_undo 42 = .ok (.aload_n 0, 1) := by decide +kernel
theorem dX7_undo_43 : decode cX7_undo 43 = .ok (.getfield 37, 3) := by decide +kernel
theorem dX7_undo_46 : decode cX7_undo 46 = .ok (.imul, 1) := by decide +kernel
theorem dX7_undo_47 : decode cX7_undo 47 = .ok (.iload_n 1, 1) := by decide +kernel
theorem dX7_undo_48 : decode cX7_undo 48 = .ok (.iadd, 1) := by decide +kernel
theorem dX7_undo_49 : decode cX7_undo 49 = .ok (.iaload, 1) := by decide +kernel
theorem dX7_undo_50 : decode cX7_undo 50 = .ok (.iastore, 1) := by decide +kernel
theorem dX7_undo_51 : decode cX7_undo 51 = .ok (.iinc 1 1, 3) := by decide +kernel
theorem dX7_undo_54 : decode cX7_undo 54 = .ok (.goto (-31), 3) := by decide +kernel
theorem dX7_undo_57 : decode cX7_undo 57 = .ok (.aload_n 0, 1) := by decide +kernel
theorem dX7_undo_58 : decode cX7_undo 58 = .ok (.getfield 37, 3) := by decide +kernel
theorem dX7_undo_61 : decode cX7_undo 61 = .ok (.ireturn, 1) := by decide +kernel
theorem dX7_sandOf_0 : decode cX7_sandOf 0 = .ok (.iconst 0, 1) := by decide +kernel
theorem dX7_sandOf_1 : decode cX7_sandOf 1 = .ok (.istore_n 3, 1) := by decide +kernel
theorem dX7_sandOf_2 : decode cX7_sandOf 2 = .ok (.iconst 0, 1) := by decide +kernel
theorem dX7_sandOf_3 : decode cX7_sandOf 3 = .ok (.istore 4, 2) := by decide +kernel
theorem dX7_sandOf_5 : decode cX7_sandOf 5 = .ok (.iload 4, 2) := by decide +kernel
theorem dX7_sandOf_7 : decode cX7_sandOf 7 = .ok (.bipush 80, 2) := by decide +kernel
theorem dX7_sandOf_9 : decode cX7_sandOf 9 = .ok (.if_icmp .ge 39, 3) := by decide +kernel
theorem dX7_sandOf_12 : decode cX7_sandOf 12 = .ok (.iload_n 3, 1) := by decide +kernel
theorem dX7_sandOf_13 : decode cX7_sandOf 13 = .ok (.iload 4, 2) := by decide +kernel
theorem dX7_sandOf_15 : decode cX7_sandOf 15 = .ok (.bipush 20, 2) := by decide +kernel
theorem dX7_sandOf_17 : decode cX7_sandOf 17 = .ok (.irem, 1) := by decide +kernel
theorem dX7_sandOf_18 : decode cX7_sandOf 18 = .ok (.i2l, 1) := by decide +kernel
theorem dX7_sandOf_19 : decode cX7_sandOf 19 = .ok (.iload_n 1, 1) := by decide +kernel
theorem dX7_sandOf_20 : decode cX7_sandOf 20 = .ok (.i2l, 1) := by decide +kernel
theorem dX7_sandOf_21 : decode cX7_sandOf 21 = .ok (.iload_n 2, 1) := by decide +kernel
theorem dX7_sandOf_22 : decode cX7_sandOf 22 = .ok (.i2l, 1) := by decide +kernel
theorem dX7_sandOf_23 : decode cX7_sandOf 23 = .ok (.invokestatic 43, 3) := by decide +kernel
theorem dX7_sandOf_26 : decode cX7_sandOf 26 = .ok (.ifCond .eq 13, 3) := by decide +kernel
theorem dX7_sandOf_29 : decode cX7_sandOf 29 = .ok (.aload_n 0, 1) := by decide +kernel
theorem dX7_sandOf_30 : decode cX7_sandOf 30 = .ok (.getfield 7, 3) := by decide +kernel
theorem dX7_sandOf_33 : decode cX7_sandOf 33 = .ok (.iload 4, 2) := by decide +kernel
theorem dX7_sandOf_35 : decode cX7_sandOf 35 = .ok (.iaload, 1) := by decide +kernel
theorem dX7_sandOf_36 : decode cX7_sandOf 36 = .ok (.goto 4, 3) := by decide +kernel
theorem dX7_sandOf_39 : decode cX7_sandOf 39 = .ok (.iconst 0, 1) := by decide +kernel
theorem dX7_sandOf_40 : decode cX7_sandOf 40 = .ok (.iadd, 1) := by decide +kernel
theorem dX7_sandOf_41 : decode cX7_sandOf 41 = .ok (.istore_n 3, 1) := by decide +kernel
theorem dX7_sandOf_42 : decode cX7_sandOf 42 = .ok (.iinc 4 1, 3) := by decide +kernel
theorem dX7_sandOf_45 : decode cX7_sandOf 45 = .ok (.goto (-40), 3) := by decide +kernel
theorem dX7_sandOf_48 : decode cX7_sandOf 48 = .ok (.iload_n 3, 1) := by decide +kernel
theorem dX7_sandOf_49 : decode cX7_sandOf 49 = .ok (.ireturn, 1) := by decide +kernel
theorem dX7_keep_0 : decode cX7_keep 0 = .ok (.iconst 0, 1) := by decide +kernel
theorem dX7_keep_1 : decode cX7_keep 1 = .ok (.istore_n 1, 1) := by decide +kernel
theorem dX7_keep_2 : decode cX7_keep 2 = .ok (.iload_n 1, 1) := by decide +kernel
theorem dX7_keep_3 : decode cX7_keep 3 = .ok (.sipush 311, 3) := by decide +kernel
theorem dX7_keep_6 : decode cX7_keep 6 = .ok (.if_icmp .ge 21, 3) := by decide +kernel
theorem dX7_keep_9 : decode cX7_keep 9 = .ok (.aload_n 0, 1) := by decide +kernel
theorem dX7_keep_10 : decode cX7_keep 10 = .ok (.getfield 19, 3) := by decide +kernel
theorem dX7_keep_13 : decode cX7_keep 13 = .ok (.iload_n 1, 1) := by decide +kernel
theorem dX7_keep_14 : decode cX7_keep 14 = .ok (.aload_n 0, 1) := by decide +kernel
theorem dX7_keep_15 : decode cX7_keep 15 = .ok (.getfield 7, 3) := by decide +kernel
theorem dX7_keep_18 : decode cX7_keep 18 = .ok (.iload_n 1, 1) := by decide +kernel
theorem dX7_keep_19 : decode cX7_keep 19 = .ok (.iaload, 1) := by decide +kernel
theorem dX7_keep_20 : decode cX7_keep 20 = .ok (.iastore, 1) := by decide +kernel
theorem dX7_keep_21 : decode cX7_keep 21 = .ok (.iinc 1 1, 3) := by decide +kernel
theorem dX7_keep_24 : decode cX7_keep 24 = .ok (.goto (-22), 3) := by decide +kernel
theorem dX7_keep_27 : decode cX7_keep 27 = .ok (.aload_n 0, 1) := by decide +kernel
theorem dX7_keep_28 : decode cX7_keep 28 = .ok (.iconst 1, 1) := by decide +kernel
theorem dX7_keep_29 : decode cX7_keep 29 = .ok (.putfield 165, 3) := by decide +kernel
theorem dX7_keep_32 : decode cX7_keep 32 = .ok (.aload_n 0, 1) := by decide +kernel
theorem dX7_keep_33 : decode cX7_keep 33 = .ok (.iconst 0, 1) := by decide +kernel
theorem dX7_keep_34 : decode cX7_keep 34 = .ok (.bipush 19, 2) := by decide +kernel
theorem dX7_keep_36 : decode cX7_keep 36 = .ok (.invokevirtual 168, 3) := by decide +kernel
theorem dX7_keep_39 : decode cX7_keep 39 = .ok (.ireturn, 1) := by decide +kernel
theorem dX7_restore_0 : decode cX7_restore 0 = .ok (.aload_n 0, 1) := by decide +kernel
theorem dX7_restore_1 : decode cX7_restore 1 = .ok (.getfield 165, 3) := by decide +kernel
theorem dX7_restore_4 : decode cX7_restore 4 = .ok (.ifCond .ne 7, 3) := by decide +kernel
theorem dX7_restore_7 : decode cX7_restore 7 = .ok (.sipush (-1005), 3) := by decide +kernel
theorem dX7_restore_10 : decode cX7_restore 10 = .ok (.ireturn, 1) := by decide +kernel
theorem dX7_restore_11 : decode cX7_restore 11 = .ok (.aload_n 0, 1) := by decide +kernel
theorem dX7_restore_12 : decode cX7_restore 12 = .ok (.invokevirtual 98, 3) := by decide +kernel
theorem dX7_restore_15 : decode cX7_restore 15 = .ok (.iconst 0, 1) := by decide +kernel
theorem dX7_restore_16 : decode cX7_restore 16 = .ok (.istore_n 1, 1) := by decide +kernel
theorem dX7_restore_17 : decode cX7_restore 17 = .ok (.iload_n 1, 1) := by decide +kernel
theorem dX7_restore_18 : decode cX7_restore 18 = .ok (.sipush 311, 3) := by decide +kernel
theorem dX7_restore_21 : decode cX7_restore 21 = .ok (.if_icmp .ge 21, 3) := by decide +kernel
theorem dX7_restore_24 : decode cX7_restore 24 = .ok (.aload_n 0, 1) := by decide +kernel
theorem dX7_restore_25 : decode cX7_restore 25 = .ok (.getfield 7, 3) := by decide +kernel
theorem dX7_restore_28 : decode cX7_restore 28 = .ok (.iload_n 1, 1) := by decide +kernel
theorem dX7_restore_29 : decode cX7_restore 29 = .ok (.aload_n 0, 1) := by decide +kernel
theorem dX7_restore_30 : decode cX7_restore 30 = .ok (.getfield 19, 3) := by decide +kernel
theorem dX7_restore_33 : decode cX7_restore 33 = .ok (.iload_n 1, 1) := by decide +kernel
theorem dX7_restore_34 : decode cX7_restore 34 = .ok (.iaload, 1) := by decide +kernel
theorem dX7_restore_35 : decode cX7_restore 35 = .ok (.iastore, 1) := by decide +kernel
theorem dX7_restore_36 : decode cX7_restore 36 = .ok (.iinc 1 1, 3) := by decide +kernel
theorem dX7_restore_39 : decode cX7_restore 39 = .ok (.goto (-22), 3) := by decide +kernel
theorem dX7_restore_42 : decode cX7_restore 42 = .ok (.aload_n 0, 1) := by decide +kernel
theorem dX7_restore_43 : decode cX7_restore 43 = .ok (.aload_n 0, 1) := by decide +kernel
theorem dX7_restore_44 : decode cX7_restore 44 = .ok (.iconst 0, 1) := by decide +kernel
theorem dX7_restore_45 : decode cX7_restore 45 = .ok (.bipush 19, 2) := by decide +kernel
theorem dX7_restore_47 : decode cX7_restore 47 = .ok (.invokevirtual 168, 3) := by decide +kernel
theorem dX7_restore_50 : decode cX7_restore 50 = .ok (.invokevirtual 101, 3) := by decide +kernel
theorem dX7_restore_53 : decode cX7_restore 53 = .ok (.ireturn, 1) := by decide +kernel
theorem dX7_cell_0 : decode cX7_cell 0 = .ok (.iload_n 1, 1) := by decide +kernel
theorem dX7_cell_1 : decode cX7_cell 1 = .ok (.invokestatic 65, 3) := by decide +kernel
theorem dX7_cell_4 : decode cX7_cell 4 = .ok (.ifCond .eq 10, 3) := by decide +kernel
theorem dX7_cell_7 : decode cX7_cell 7 = .ok (.iload_n 2, 1) := by decide +kernel
theorem dX7_cell_8 : decode cX7_cell 8 = .ok (.invokestatic 93, 3) := by decide +kernel
theorem dX7_cell_11 : decode cX7_cell 11 = .ok (.ifCond .ne 7, 3) := by decide +kernel
theorem dX7_cell_14 : decode cX7_cell 14 = .ok (.sipush (-1001), 3) := by decide +kernel
theorem dX7_cell_17 : decode cX7_cell 17 = .ok (.ireturn, 1) := by decide +kernel
theorem dX7_cell_18 : decode cX7_cell 18 = .ok (.iload_n 3, 1) := by decide +kernel
theorem dX7_cell_19 : decode cX7_cell 19 = .ok (.tableswitch 91 0 4 #[33, 40, 47, 62, 77], 33) := by decide +kernel
theorem dX7_cell_52 : decode cX7_cell 52 = .ok (.aload_n 0, 1) := by decide +kernel
theorem dX7_cell_53 : decode cX7_cell 53 = .ok (.iload_n 1, 1) := by decide +kernel
theorem dX7_cell_54 : decode cX7_cell 54 = .ok (.iload_n 2, 1) := by decide +kernel
theorem dX7_cell_55 : decode cX7_cell 55 = .ok (.invokevirtual 52, 3) := by decide +kernel
theorem dX7_cell_58 : decode cX7_cell 58 = .ok (.ireturn, 1) := by decide +kernel
theorem dX7_cell_59 : decode cX7_cell 59 = .ok (.aload_n 0, 1) := by decide +kernel
theorem dX7_cell_60 : decode cX7_cell 60 = .ok (.iload_n 1, 1) := by decide +kernel
theorem dX7_cell_61 : decode cX7_cell 61 = .ok (.iload_n 2, 1) := by decide +kernel
theorem dX7_cell_62 : decode cX7_cell 62 = .ok (.invokevirtual 56, 3) := by decide +kernel
theorem dX7_cell_65 : decode cX7_cell 65 = .ok (.ireturn, 1) := by decide +kernel
theorem dX7_cell_66 : decode cX7_cell 66 = .ok (.aload_n 0, 1) := by decide +kernel
theorem dX7_cell_67 : decode cX7_cell 67 = .ok (.iload_n 1, 1) := by decide +kernel
theorem dX7_cell_68 : decode cX7_cell 68 = .ok (.iload_n 2, 1) := by decide +kernel
theorem dX7_cell_69 : decode cX7_cell 69 = .ok (.invokevirtual 69, 3) := by decide +kernel
theorem dX7_cell_72 : decode cX7_cell 72 = .ok (.ifCond .eq 7, 3) := by decide +kernel
theorem dX7_cell_75 : decode cX7_cell 75 = .ok (.iconst 1, 1) := by decide +kernel
theorem dX7_cell_76 : decode cX7_cell 76 = .ok (.goto 4, 3) := by decide +kernel
theorem dX7_cell_79 : decode cX7_cell 79 = .ok (.iconst 0, 1) := by decide +kernel
theorem dX7_cell_80 : decode cX7_cell 80 = .ok (.ireturn, 1) := by decide +kernel
theorem dX7_cell_81 : decode cX7_cell 81 = .ok (.aload_n 0, 1) := by decide +kernel
theorem dX7_cell_82 : decode cX7_cell 82 = .ok (.iload_n 1, 1) := by decide +kernel
theorem dX7_cell_83 : decode cX7_cell 83 = .ok (.iload_n 2, 1) := by decide +kernel
theorem dX7_cell_84 : decode cX7_cell 84 = .ok (.invokevirtual 90, 3) := by decide +kernel
theorem dX7_cell_87 : decode cX7_cell 87 = .ok (.ifCond .eq 7, 3) := by decide +kernel
theorem dX7_cell_90 : decode cX7_cell 90 = .ok (.iconst 1, 1) := by decide +kernel
theorem dX7_cell_91 : decode cX7_cell 91 = .ok (.goto 4, 3) := by decide +kernel
theorem dX7_cell_94 : decode cX7_cell 94 = .ok (.iconst 0, 1) := by decide +kernel
theorem dX7_cell_95 : decode cX7_cell 95 = .ok (.ireturn, 1) := by decide +kernel
theorem dX7_cell_96 : decode cX7_cell 96 = .ok (.aload_n 0, 1) := by decide +kernel
theorem dX7_cell_97 : decode cX7_cell 97 = .ok (.iload_n 1, 1) := by decide +kernel
theorem dX7_cell_98 : decode cX7_cell 98 = .ok (.iload_n 2, 1) := by decide +kernel
theorem dX7_cell_99 : decode cX7_cell 99 = .ok (.invokevirtual 52, 3) := by decide +kernel
theorem dX7_cell_102 : decode cX7_cell 102 = .ok (.bipush 60, 2) := by decide +kernel
theorem dX7_cell_104 : decode cX7_cell 104 = .ok (.isub, 1) := by decide +kernel
theorem dX7_cell_105 : decode cX7_cell 105 = .ok (.iconst 3, 1) := by decide +kernel
theorem dX7_cell_106 : decode cX7_cell 106 = .ok (.iload_n 2, 1) := by decide +kernel
theorem dX7_cell_107 : decode cX7_cell 107 = .ok (.imul, 1) := by decide +kernel
theorem dX7_cell_108 : decode cX7_cell 108 = .ok (.iadd, 1) := by decide +kernel
theorem dX7_cell_109 : decode cX7_cell 109 = .ok (.ireturn, 1) := by decide +kernel
theorem dX7_cell_110 : decode cX7_cell 110 = .ok (.sipush (-1002), 3) := by decide +kernel
theorem dX7_cell_113 : decode cX7_cell 113 = .ok (.ireturn, 1) := by decide +kernel
theorem dX7_sandIn_0 : decode cX7_sandIn 0 = .ok (.iconst 0, 1) := by decide +kernel
theorem dX7_sandIn_1 : decode cX7_sandIn 1 = .ok (.istore_n 2, 1) := by decide +kernel
theorem dX7_sandIn_2 : decode cX7_sandIn 2 = .ok (.iconst 0, 1) := by decide +kernel
theorem dX7_sandIn_3 : decode cX7_sandIn 3 = .ok (.istore_n 3, 1) := by decide +kernel
theorem dX7_sandIn_4 : decode cX7_sandIn 4 = .ok (.iload_n 3, 1) := by decide +kernel
theorem dX7_sandIn_5 : decode cX7_sandIn 5 = .ok (.bipush 20, 2) := by decide +kernel
theorem dX7_sandIn_7 : decode cX7_sandIn 7 = .ok (.if_icmp .ge 18, 3) := by decide +kernel
theorem dX7_sandIn_10 : decode cX7_sandIn 10 = .ok (.iload_n 2, 1) := by decide +kernel
theorem dX7_sandIn_11 : decode cX7_sandIn 11 = .ok (.aload_n 0, 1) := by decide +kernel
theorem dX7_sandIn_12 : decode cX7_sandIn 12 = .ok (.iload_n 1, 1) := by decide +kernel
theorem dX7_sandIn_13 : decode cX7_sandIn 13 = .ok (.iload_n 3, 1) := by decide +kernel
theorem dX7_sandIn_14 : decode cX7_sandIn 14 = .ok (.invokevirtual 52, 3) := by decide +kernel
theorem dX7_sandIn_17 : decode cX7_sandIn 17 = .ok (.iadd, 1) := by decide +kernel
theorem dX7_sandIn_18 : decode cX7_sandIn 18 = .ok (.istore_n 2, 1) := by decide +kernel
theorem dX7_sandIn_19 : decode cX7_sandIn 19 = .ok (.iinc 3 1, 3) := by decide +kernel
theorem dX7_sandIn_22 : decode cX7_sandIn 22 = .ok (.goto (-18), 3) := by decide +kernel
theorem dX7_sandIn_25 : decode cX7_sandIn 25 = .ok (.iload_n 2, 1) := by decide +kernel
theorem dX7_sandIn_26 : decode cX7_sandIn 26 = .ok (.ireturn, 1) := by decide +kernel
theorem dX7_bitsOf_0 : decode cX7_bitsOf 0 = .ok (.iconst 0, 1) := by decide +kernel
theorem dX7_bitsOf_1 : decode cX7_bitsOf 1 = .ok (.istore_n 3, 1) := by decide +kernel
theorem dX7_bitsOf_2 : decode cX7_bitsOf 2 = .ok (.iconst 0, 1) := by decide +kernel
theorem dX7_bitsOf_3 : decode cX7_bitsOf 3 = .ok (.istore 4, 2) := by decide +kernel
theorem dX7_bitsOf_5 : decode cX7_bitsOf 5 = .ok (.iload 4, 2) := by decide +kernel
theorem dX7_bitsOf_7 : decode cX7_bitsOf 7 = .ok (.bipush 20, 2) := by decide +kernel
theorem dX7_bitsOf_9 : decode cX7_bitsOf 9 = .ok (.if_icmp .ge 47, 3) := by decide +kernel
theorem dX7_bitsOf_12 : decode cX7_bitsOf 12 = .ok (.iload_n 3, 1) := by decide +kernel
theorem dX7_bitsOf_13 : decode cX7_bitsOf 13 = .ok (.iload_n 2, 1) := by decide +kernel
theorem dX7_bitsOf_14 : decode cX7_bitsOf 14 = .ok (.ifCond .eq 16, 3) := by decide +kernel
theorem dX7_bitsOf_17 : decode cX7_bitsOf 17 = .ok (.aload_n 0, 1) := by decide +kernel
theorem dX7_bitsOf_18 : decode cX7_bitsOf 18 = .ok (.iload_n 1, 1) := by decide +kernel
theorem dX7_bitsOf_19 : decode cX7_bitsOf 19 = .ok (.iload 4, 2) := by decide +kernel
theorem dX7_bitsOf_21 : decode cX7_bitsOf 21 = .ok (.invokevirtual 90, 3) := by decide +kernel
theorem dX7_bitsOf_24 : decode cX7_bitsOf 24 = .ok (.ifCond .eq 23, 3) := by decide +kernel
theorem dX7_bitsOf_27 : decode cX7_bitsOf 27 = .ok (.goto 13, 3) := by decide +kernel
theorem dX7_bitsOf_30 : decode cX7_bitsOf 30 = .ok (.aload_n 0, 1) := by decide +kernel
theorem dX7_bitsOf_31 : decode cX7_bitsOf 31 = .ok (.iload_n 1, 1) := by decide +kernel
theorem dX7_bitsOf_32 : decode cX7_bitsOf 32 = .ok (.iload 4, 2) := by decide +kernel
theorem dX7_bitsOf_34 : decode cX7_bitsOf 34 = .ok (.invokevirtual 69, 3) := by decide +kernel
theorem dX7_bitsOf_37 : decode cX7_bitsOf 37 = .ok (.ifCond .eq 10, 3) := by decide +kernel
theorem dX7_bitsOf_40 : decode cX7_bitsOf 40 = .ok (.iconst 1, 1) := by decide +kernel
theorem dX7_bitsOf_41 : decode cX7_bitsOf 41 = .ok (.iload 4, 2) := by decide +kernel
theorem dX7_bitsOf_43 : decode cX7_bitsOf 43 = .ok (.ishl, 1) := by decide +kernel
theorem dX7_bitsOf_44 : decode cX7_bitsOf 44 = .ok (.goto 4, 3) := by decide +kernel
theorem dX7_bitsOf_47 : decode cX7_bitsOf 47 = .ok (.iconst 0, 1) := by decide +kernel
theorem dX7_bitsOf_48 : decode cX7_bitsOf 48 = .ok (.ior, 1) := by decide +kernel
theorem dX7_bitsOf_49 : decode cX7_bitsOf 49 = .ok (.istore_n 3, 1) := by decide +kernel
theorem dX7_bitsOf_50 : decode cX7_bitsOf 50 = .ok (.iinc 4 1, 3) := by decide +kernel
theorem dX7_bitsOf_53 : decode cX7_bitsOf 53 = .ok (.goto (-48), 3) := by decide +kernel
theorem dX7_bitsOf_56 : decode cX7_bitsOf 56 = .ok (.iload_n 3, 1) := by decide +kernel
theorem dX7_bitsOf_57 : decode cX7_bitsOf 57 = .ok (.ireturn, 1) := by decide +kernel
theorem dX7_many_0 : decode cX7_many 0 = .ok (.iconst 0, 1) := by decide +kernel
theorem dX7_many_1 : decode cX7_many 1 = .ok (.istore_n 1, 1) := by decide +kernel
theorem dX7_many_2 : decode cX7_many 2 = .ok (.iload_n 0, 1) := by decide +kernel
theorem dX7_many_3 : decode cX7_many 3 = .ok (.istore_n 2, 1) := by decide +kernel
theorem dX7_many_4 : decode cX7_many 4 = .ok (.iload_n 2, 1) := by decide +kernel
theorem dX7_many_5 : decode cX7_many 5 = .ok (.ifCond .eq 15, 3) := by decide +kernel
theorem dX7_many_8 : decode cX7_many 8 = .ok (.iinc 1 1, 3) := by decide +kernel
theorem dX7_many_11 : decode cX7_many 11 = .ok (.iload_n 2, 1) := by decide +kernel
theorem dX7_many_12 : decode cX7_many 12 = .ok (.iload_n 2, 1) := by decide +kernel
theorem dX7_many_13 : decode cX7_many 13 = .ok (.iconst 1, 1) := by decide +kernel
theorem dX7_many_14 : decode cX7_many 14 = .ok (.isub, 1) := by decide +kernel
theorem dX7_many_15 : decode cX7_many 15 = .ok (.iand, 1) := by decide +kernel
theorem dX7_many_16 : decode cX7_many 16 = .ok (.istore_n 2, 1) := by decide +kernel
theorem dX7_many_17 : decode cX7_many 17 = .ok (.goto (-13), 3) := by decide +kernel
theorem dX7_many_20 : decode cX7_many 20 = .ok (.iload_n 1, 1) := by decide +kernel
theorem dX7_many_21 : decode cX7_many 21 = .ok (.ireturn, 1) := by decide +kernel
theorem dX7_lastDry_0 : decode cX7_lastDry 0 = .ok (.sipush (-1005), 3) := by decide +kernel
theorem dX7_lastDry_3 : decode cX7_lastDry 3 = .ok (.istore_n 2, 1) := by decide +kernel
theorem dX7_lastDry_4 : decode cX7_lastDry 4 = .ok (.iconst 0, 1) := by decide +kernel
theorem dX7_lastDry_5 : decode cX7_lastDry 5 = .ok (.istore_n 3, 1) := by decide +kernel
theorem dX7_lastDry_6 : decode cX7_lastDry 6 = .ok (.iload_n 3, 1) := by decide +kernel
theorem dX7_lastDry_7 : decode cX7_lastDry 7 = .ok (.bipush 20, 2) := by decide +kernel
theorem dX7_lastDry_9 : decode cX7_lastDry 9 = .ok (.if_icmp .ge 24, 3) := by decide +kernel
theorem dX7_lastDry_12 : decode cX7_lastDry 12 = .ok (.aload_n 0, 1) := by decide +kernel
theorem dX7_lastDry_13 : decode cX7_lastDry 13 = .ok (.iload_n 1, 1) := by decide +kernel
theorem dX7_lastDry_14 : decode cX7_lastDry 14 = .ok (.iload_n 3, 1) := by decide +kernel
theorem dX7_lastDry_15 : decode cX7_lastDry 15 = .ok (.invokevirtual 61, 3) := by decide +kernel
theorem dX7_lastDry_18 : decode cX7_lastDry 18 = .ok (.ifCond .eq 7, 3) := by decide +kernel
theorem dX7_lastDry_21 : decode cX7_lastDry 21 = .ok (.iload_n 3, 1) := by decide +kernel
theorem dX7_lastDry_22 : decode cX7_lastDry 22 = .ok (.goto 4, 3) := by decide +kernel
theorem dX7_lastDry_25 : decode cX7_lastDry 25 = .ok (.iload_n 2, 1) := by decide +kernel
theorem dX7_lastDry_26 : decode cX7_lastDry 26 = .ok (.istore_n 2, 1) := by decide +kernel
theorem dX7_lastDry_27 : decode cX7_lastDry 27 = .ok (.iinc 3 1, 3) := by decide +kernel
theorem dX7_lastDry_30 : decode cX7_lastDry 30 = .ok (.goto (-24), 3) := by decide +kernel
theorem dX7_lastDry_33 : decode cX7_lastDry 33 = .ok (.iload_n 2, 1) := by decide +kernel
theorem dX7_lastDry_34 : decode cX7_lastDry 34 = .ok (.ireturn, 1) := by decide +kernel
theorem dX7_steepest_0 : decode cX7_steepest 0 = .ok (.iconst 0, 1) := by decide +kernel
theorem dX7_steepest_1 : decode cX7_steepest 1 = .ok (.istore_n 2, 1) := by decide +kernel
theorem dX7_steepest_2 : decode cX7_steepest 2 = .ok (.iconst 1, 1) := by decide +kernel
theorem dX7_steepest_3 : decode cX7_steepest 3 = .ok (.istore_n 3, 1) := by decide +kernel
theorem dX7_steepest_4 : decode cX7_steepest 4 = .ok (.iload_n 3, 1) := by decide +kernel
theorem dX7_steepest_5 : decode cX7_steepest 5 = .ok (.bipush 20, 2) := by decide +kernel
theorem dX7_steepest_7 : decode cX7_steepest 7 = .ok (.if_icmp .ge 52, 3) := by decide +kernel
theorem dX7_steepest_10 : decode cX7_steepest 10 = .ok (.aload_n 0, 1) := by decide +kernel
theorem dX7_steepest_11 : decode cX7_steepest 11 = .ok (.iload_n 1, 1) := by decide +kernel
theorem dX7_steepest_12 : decode cX7_steepest 12 = .ok (.iload_n 3, 1) := by decide +kernel
theorem dX7_steepest_13 : decode cX7_steepest 13 = .ok (.invokevirtual 52, 3) := by decide +kernel
theorem dX7_steepest_16 : decode cX7_steepest 16 = .ok (.aload_n 0, 1) := by decide +kernel
theorem dX7_steepest_17 : decode cX7_steepest 17 = .ok (.iload_n 1, 1) := by decide +kernel
theorem dX7_steepest_18 : decode cX7_steepest 18 = .ok (.iload_n 3, 1) := by decide +kernel
theorem dX7_steepest_19 : decode cX7_steepest 19 = .ok (.iconst 1, 1) := by decide +kernel
theorem dX7_steepest_20 : decode cX7_steepest 20 = .ok (.isub, 1) := by decide +kernel
theorem dX7_steepest_21 : decode cX7_steepest 21 = .ok (.invokevirtual 52, 3) := by decide +kernel
theorem dX7_steepest_24 : decode cX7_steepest 24 = .ok (.isub, 1) := by decide +kernel
theorem dX7_steepest_25 : decode cX7_steepest 25 = .ok (.istore 4, 2) := by decide +kernel
theorem dX7_steepest_27 : decode cX7_steepest 27 = .ok (.iload 4, 2) := by decide +kernel
theorem dX7_steepest_29 : decode cX7_steepest 29 = .ok (.iload_n 2, 1) := by decide +kernel
theorem dX7_steepest_30 : decode cX7_steepest 30 = .ok (.if_icmp .le 8, 3) := by decide +kernel
theorem dX7_steepest_33 : decode cX7_steepest 33 = .ok (.iload 4, 2) := by decide +kernel
theorem dX7_steepest_35 : decode cX7_steepest 35 = .ok (.goto 17, 3) := by decide +kernel
theorem dX7_steepest_38 : decode cX7_steepest 38 = .ok (.iload 4, 2) := by decide +kernel
theorem dX7_steepest_40 : decode cX7_steepest 40 = .ok (.ineg, 1) := by decide +kernel
theorem dX7_steepest_41 : decode cX7_steepest 41 = .ok (.iload_n 2, 1) := by decide +kernel
theorem dX7_steepest_42 : decode cX7_steepest 42 = .ok (.if_icmp .le 9, 3) := by decide +kernel
theorem dX7_steepest_45 : decode cX7_steepest 45 = .ok (.iload 4, 2) := by decide +kernel
theorem dX7_steepest_47 : decode cX7_steepest 47 = .ok (.ineg, 1) := by decide +kernel
theorem dX7_steepest_48 : decode cX7_steepest 48 = .ok (.goto 4, 3) := by decide +kernel
theorem dX7_steepest_51 : decode cX7_steepest 51 = .ok (.iload_n 2, 1) := by decide +kernel
theorem dX7_steepest_52 : decode cX7_steepest 52 = .ok (.istore_n 2, 1) := by decide +kernel
theorem dX7_steepest_53 : decode cX7_steepest 53 = .ok (.iinc 3 1, 3) := by decide +kernel
theorem dX7_steepest_56 : decode cX7_steepest 56 = .ok (.goto (-52), 3) := by decide +kernel
theorem dX7_steepest_59 : decode cX7_steepest 59 = .ok (.iload_n 2, 1) := by decide +kernel
theorem dX7_steepest_60 : decode cX7_steepest 60 = .ok (.ireturn, 1) := by decide +kernel
theorem dX7_highestBar_0 : decode cX7_highestBar 0 = .ok (.sipush (-1005), 3) := by decide +kernel
theorem dX7_highestBar_3 : decode cX7_highestBar 3 = .ok (.istore_n 2, 1) := by decide +kernel
theorem dX7_highestBar_4 : decode cX7_highestBar 4 = .ok (.iconst 0, 1) := by decide +kernel
theorem dX7_highestBar_5 : decode cX7_highestBar 5 = .ok (.istore_n 3, 1) := by decide +kernel
theorem dX7_highestBar_6 : decode cX7_highestBar 6 = .ok (.iload_n 3, 1) := by decide +kernel
theorem dX7_highestBar_7 : decode cX7_highestBar 7 = .ok (.bipush 20, 2) := by decide +kernel
theorem dX7_highestBar_9 : decode cX7_highestBar 9 = .ok (.if_icmp .ge 46, 3) := by decide +kernel
theorem dX7_highestBar_12 : decode cX7_highestBar 12 = .ok (.aload_n 0, 1) := by decide +kernel
theorem dX7_highestBar_13 : decode cX7_highestBar 13 = .ok (.iload_n 1, 1) := by decide +kernel
theorem dX7_highestBar_14 : decode cX7_highestBar 14 = .ok (.iload_n 3, 1) := by decide +kernel
theorem dX7_highestBar_15 : decode cX7_highestBar 15 = .ok (.invokevirtual 69, 3) := by decide +kernel
theorem dX7_highestBar_18 : decode cX7_highestBar 18 = .ok (.ifCond .eq 29, 3) := by decide +kernel
theorem dX7_highestBar_21 : decode cX7_highestBar 21 = .ok (.iload_n 2, 1) := by decide +kernel
theorem dX7_highestBar_22 : decode cX7_highestBar 22 = .ok (.sipush (-1005), 3) := by decide +kernel
theorem dX7_highestBar_25 : decode cX7_highestBar 25 = .ok (.if_icmp .eq 18, 3) := by decide +kernel
theorem dX7_highestBar_28 : decode cX7_highestBar 28 = .ok (.aload_n 0, 1) := by decide +kernel
theorem dX7_highestBar_29 : decode cX7_highestBar 29 = .ok (.iload_n 1, 1) := by decide +kernel
theorem dX7_highestBar_30 : decode cX7_highestBar 30 = .ok (.iload_n 3, 1) := by decide +kernel
theorem dX7_highestBar_31 : decode cX7_highestBar 31 = .ok (.invokevirtual 52, 3) := by decide +kernel
theorem dX7_highestBar_34 : decode cX7_highestBar 34 = .ok (.aload_n 0, 1) := by decide +kernel
theorem dX7_highestBar_35 : decode cX7_highestBar 35 = .ok (.iload_n 1, 1) := by decide +kernel
theorem dX7_highestBar_36 : decode cX7_highestBar 36 = .ok (.iload_n 2, 1) := by decide +kernel
theorem dX7_highestBar_37 : decode cX7_highestBar 37 = .ok (.invokevirtual 52, 3) := by decide +kernel
theorem dX7_highestBar_40 : decode cX7_highestBar 40 = .ok (.if_icmp .le 7, 3) := by decide +kernel
theorem dX7_highestBar_43 : decode cX7_highestBar 43 = .ok (.iload_n 3, 1) := by decide +kernel
theorem dX7_highestBar_44 : decode cX7_highestBar 44 = .ok (.goto 4, 3) := by decide +kernel
theorem dX7_highestBar_47 : decode cX7_highestBar 47 = .ok (.iload_n 2, 1) := by decide +kernel
theorem dX7_highestBar_48 : decode cX7_highestBar 48 = .ok (.istore_n 2, 1) := by decide +kernel
theorem dX7_highestBar_49 : decode cX7_highestBar 49 = .ok (.iinc 3 1, 3) := by decide +kernel
theorem dX7_highestBar_52 : decode cX7_highestBar 52 = .ok (.goto (-46), 3) := by decide +kernel
theorem dX7_highestBar_55 : decode cX7_highestBar 55 = .ok (.iload_n 2, 1) := by decide +kernel
theorem dX7_highestBar_56 : decode cX7_highestBar 56 = .ok (.ireturn, 1) := by decide +kernel
theorem dX7_row_0 : decode cX7_row 0 = .ok (.iload_n 1, 1) := by decide +kernel
theorem dX7_row_1 : decode cX7_row 1 = .ok (.invokestatic 65, 3) := by decide +kernel
theorem dX7_row_4 : decode cX7_row 4 = .ok (.ifCond .ne 7, 3) := by decide +kernel
theorem dX7_row_7 : decode cX7_row 7 = .ok (.sipush (-1001), 3) := by decide +kernel
theorem dX7_row_10 : decode cX7_row 10 = .ok (.ireturn, 1) := by decide +kernel
theorem dX7_row_11 : decode cX7_row 11 = .ok (.iload_n 2, 1) := by decide +kernel
theorem dX7_row_12 : decode cX7_row 12 = .ok (.tableswitch 94 0 6 #[44, 50, 50, 69, 75, 81, 88], 44) := by decide +kernel
theorem dX7_row_56 : decode cX7_row 56 = .ok (.aload_n 0, 1) := by decide +kernel
theorem dX7_row_57 : decode cX7_row 57 = .ok (.iload_n 1, 1) := by decide +kernel
theorem dX7_row_58 : decode cX7_row 58 = .ok (.invokevirtual 171, 3) := by decide +kernel
theorem dX7_row_61 : decode cX7_row 61 = .ok (.ireturn, 1) := by decide +kernel
theorem dX7_row_62 : decode cX7_row 62 = .ok (.aload_n 0, 1) := by decide +kernel
theorem dX7_row_63 : decode cX7_row 63 = .ok (.iload_n 1, 1) := by decide +kernel
theorem dX7_row_64 : decode cX7_row 64 = .ok (.iload_n 2, 1) := by decide +kernel
theorem dX7_row_65 : decode cX7_row 65 = .ok (.iconst 2, 1) := by decide +kernel
theorem dX7_row_66 : decode cX7_row 66 = .ok (.if_icmp .ne 7, 3) := by decide +kernel
theorem dX7_row_69 : decode cX7_row 69 = .ok (.iconst 1, 1) := by decide +kernel
theorem dX7_row_70 : decode cX7_row 70 = .ok (.goto 4, 3) := by decide +kernel
theorem dX7_row_73 : decode cX7_row 73 = .ok (.iconst 0, 1) := by decide +kernel
theorem dX7_row_74 : decode cX7_row 74 = .ok (.invokevirtual 174, 3) := by decide +kernel
theorem dX7_row_77 : decode cX7_row 77 = .ok (.invokestatic 178, 3) := by decide +kernel
theorem dX7_row_80 : decode cX7_row 80 = .ok (.ireturn, 1) := by decide +kernel
theorem dX7_row_81 : decode cX7_row 81 = .ok (.aload_n 0, 1) := by decide +kernel
theorem dX7_row_82 : decode cX7_row 82 = .ok (.iload_n 1, 1) := by decide +kernel
theorem dX7_row_83 : decode cX7_row 83 = .ok (.invokevirtual 181, 3) := by decide +kernel
theorem dX7_row_86 : decode cX7_row 86 = .ok (.ireturn, 1) := by decide +kernel
theorem dX7_row_87 : decode cX7_row 87 = .ok (.aload_n 0, 1) := by decide +kernel
theorem dX7_row_88 : decode cX7_row 88 = .ok (.iload_n 1, 1) := by decide +kernel
theorem dX7_row_89 : decode cX7_row 89 = .ok (.invokevirtual 184, 3) := by decide +kernel
theorem dX7_row_92 : decode cX7_row 92 = .ok (.ireturn, 1) := by decide +kernel
theorem dX7_row_93 : decode cX7_row 93 = .ok (.aload_n 0, 1) := by decide +kernel
theorem dX7_row_94 : decode cX7_row 94 = .ok (.iload_n 1, 1) := by decide +kernel
theorem dX7_row_95 : decode cX7_row 95 = .ok (.iconst 0, 1) := by decide +kernel
theorem dX7_row_96 : decode cX7_row 96 = .ok (.invokevirtual 174, 3) := by decide +kernel
theorem dX7_row_99 : decode cX7_row 99 = .ok (.ireturn, 1) := by decide +kernel
theorem dX7_row_100 : decode cX7_row 100 = .ok (.aload_n 0, 1) := by decide +kernel
theorem dX7_row_101 : decode cX7_row 101 = .ok (.iload_n 1, 1) := by decide +kernel
theorem dX7_row_102 : decode cX7_row 102 = .ok (.invokevirtual 187, 3) := by decide +kernel
theorem dX7_row_105 : decode cX7_row 105 = .ok (.ireturn, 1) := by decide +kernel
theorem dX7_row_106 : decode cX7_row 106 = .ok (.sipush (-1002), 3) := by decide +kernel
theorem dX7_row_109 : decode cX7_row 109 = .ok (.ireturn, 1) := by decide +kernel
theorem dX7_waiting_0 : decode cX7_waiting 0 = .ok (.iload_n 1, 1) := by decide +kernel
theorem dX7_waiting_1 : decode cX7_waiting 1 = .ok (.ifCond .ge 7, 3) := by decide +kernel
theorem dX7_waiting_4 : decode cX7_waiting 4 = .ok (.sipush (-1002), 3) := by decide +kernel
theorem dX7_waiting_7 : decode cX7_waiting 7 = .ok (.ireturn, 1) := by decide +kernel
theorem dX7_waiting_8 : decode cX7_waiting 8 = .ok (.iload_n 1, 1) := by decide +kernel
theorem dX7_waiting_9 : decode cX7_waiting 9 = .ok (.aload_n 0, 1) := by decide +kernel
theorem dX7_waiting_10 : decode cX7_waiting 10 = .ok (.getfield 7, 3) := by decide +kernel
theorem dX7_waiting_13 : decode cX7_waiting 13 = .ok (.bipush 85, 2) := by decide +kernel
theorem dX7_waiting_15 : decode cX7_waiting 15 = .ok (.iaload, 1) := by decide +kernel
theorem dX7_waiting_16 : decode cX7_waiting 16 = .ok (.if_icmp .ge 27, 3) := by decide +kernel
theorem dX7_waiting_19 : decode cX7_waiting 19 = .ok (.aload_n 0, 1) := by decide +kernel
theorem dX7_waiting_20 : decode cX7_waiting 20 = .ok (.getfield 7, 3) := by decide +kernel
theorem dX7_waiting_23 : decode cX7_waiting 23 = .ok (.bipush 86, 2) := by decide +kernel
theorem dX7_waiting_25 : decode cX7_waiting 25 = .ok (.iconst 2, 1) := by decide +kernel
theorem dX7_waiting_26 : decode cX7_waiting 26 = .ok (.iload_n 1, 1) := by decide +kernel
theorem dX7_waiting_27 : decode cX7_waiting 27 = .ok (.imul, 1) := by decide +kernel
theorem dX7_waiting_28 : decode cX7_waiting 28 = .ok (.iadd, 1) := by decide +kernel
theorem dX7_waiting_29 : decode cX7_waiting 29 = .ok (.iload_n 2, 1) := by decide +kernel
theorem dX7_waiting_30 : decode cX7_waiting 30 = .ok (.ifCond .eq 7, 3) := by decide +kernel
theorem dX7_waiting_33 : decode cX7_waiting 33 = .ok (.iconst 1, 1) := by decide +kernel
theorem dX7_waiting_34 : decode cX7_waiting 34 = .ok (.goto 4, 3) := by decide +kernel
theorem dX7_waiting_37 : decode cX7_waiting 37 = .ok (.iconst 0, 1) := by decide +kernel
theorem dX7_waiting_38 : decode cX7_waiting 38 = .ok (.iadd, 1) := by decide +kernel
theorem dX7_waiting_39 : decode cX7_waiting 39 = .ok (.iaload, 1) := by decide +kernel
theorem dX7_waiting_40 : decode cX7_waiting 40 = .ok (.goto 6, 3) := by decide +kernel
theorem dX7_waiting_43 : decode cX7_waiting 43 = .ok (.sipush (-1005), 3) := by decide +kernel
theorem dX7_waiting_46 : decode cX7_waiting 46 = .ok (.ireturn, 1) := by decide +kernel
theorem dX7_ended_0 : decode cX7_ended 0 = .ok (.iload_n 1, 1) := by decide +kernel
theorem dX7_ended_1 : decode cX7_ended 1 = .ok (.ifCond .lt 15, 3) := by decide +kernel
theorem dX7_ended_4 : decode cX7_ended 4 = .ok (.iload_n 2, 1) := by decide +kernel
theorem dX7_ended_5 : decode cX7_ended 5 = .ok (.i2l, 1) := by decide +kernel
theorem dX7_ended_6 : decode cX7_ended 6 = .ok (.lconst 0, 1) := by decide +kernel
theorem dX7_ended_7 : decode cX7_ended 7 = .ok (.ldc2_w 190, 3) := by decide +kernel
theorem dX7_ended_10 : decode cX7_ended 10 = .ok (.invokestatic 43, 3) := by decide +kernel
theorem dX7_ended_13 : decode cX7_ended 13 = .ok (.ifCond .ne 7, 3) := by decide +kernel
theorem dX7_ended_16 : decode cX7_ended 16 = .ok (.sipush (-1002), 3) := by decide +kernel
theorem dX7_ended_19 : decode cX7_ended 19 = .ok (.ireturn, 1) := by decide +kernel
theorem dX7_ended_20 : decode cX7_ended 20 = .ok (.iload_n 1, 1) := by decide +kernel
theorem dX7_ended_21 : decode cX7_ended 21 = .ok (.aload_n 0, 1) := by decide +kernel
theorem dX7_ended_22 : decode cX7_ended 22 = .ok (.getfield 7, 3) := by decide +kernel
theorem dX7_ended_25 : decode cX7_ended 25 = .ok (.sipush 142, 3) := by decide +kernel
theorem dX7_ended_28 : decode cX7_ended 28 = .ok (.iaload, 1) := by decide +kernel
theorem dX7_ended_29 : decode cX7_ended 29 = .ok (.if_icmp .ge 21, 3) := by decide +kernel
theorem dX7_ended_32 : decode cX7_ended 32 = .ok (.aload_n 0, 1) := by decide +kernel
theorem dX7_ended_33 : decode cX7_ended 33 = .ok (.getfield 7, 3) := by decide +kernel
theorem dX7_ended_36 : decode cX7_ended 36 = .ok (.sipush 143, 3) := by decide +kernel
theorem dX7_ended_39 : decode cX7_ended 39 = .ok (.bipush 7, 2) := by decide +kernel
theorem dX7_ended_41 : decode cX7_ended 41 = .ok (.iload_n 1, 1) := by decide +kernel
theorem dX7_ended_42 : decode cX7_ended 42 = .ok (.imul, 1) := by decide +kernel
theorem dX7_ended_43 : decode cX7_ended 43 = .ok (.iadd, 1) := by decide +kernel
theorem dX7_ended_44 : decode cX7_ended 44 = .ok (.iload_n 2, 1) := by decide +kernel
theorem dX7_ended_45 : decode cX7_ended 45 = .ok (.iadd, 1) := by decide +kernel
theorem dX7_ended_46 : decode cX7_ended 46 = .ok (.iaload, 1) := by decide +kernel
theorem dX7_ended_47 : decode cX7_ended 47 = .ok (.goto 6, 3) := by decide +kernel
theorem dX7_ended_50 : decode cX7_ended 50 = .ok (.sipush (-1005), 3) := by decide +kernel
theorem dX7_ended_53 : decode cX7_ended 53 = .ok (.ireturn, 1) := by decide +kernel
theorem dX7_would_0 : decode cX7_would 0 = .ok (.iload_n 1, 1) := by decide +kernel
theorem dX7_would_1 : decode cX7_would 1 = .ok (.invokestatic 65, 3) := by decide +kernel
theorem dX7_would_4 : decode cX7_would 4 = .ok (.ifCond .ne 7, 3) := by decide +kernel
theorem dX7_would_7 : decode cX7_would 7 = .ok (.sipush (-1001), 3) := by decide +kernel
theorem dX7_would_10 : decode cX7_would 10 = .ok (.ireturn, 1) := by decide +kernel
theorem dX7_would_11 : decode cX7_would 11 = .ok (.iload_n 2, 1) := by decide +kernel
theorem dX7_would_12 : decode cX7_would 12 = .ok (.invokestatic 121, 3) := by decide +kernel
theorem dX7_would_15 : decode cX7_would 15 = .ok (.ifCond .eq 17, 3) := by decide +kernel
theorem dX7_would_18 : decode cX7_would 18 = .ok (.iload_n 3, 1) := by decide +kernel
theorem dX7_would_19 : decode cX7_would 19 = .ok (.i2l, 1) := by decide +kernel
theorem dX7_would_20 : decode cX7_would 20 = .ok (.ldc2_w 112, 3) := by decide +kernel
theorem dX7_would_23 : decode cX7_would 23 = .ok (.ldc2_w 190, 3) := by decide +kernel
theorem dX7_would_26 : decode cX7_would 26 = .ok (.invokestatic 43, 3) := by decide +kernel
theorem dX7_would_29 : decode cX7_would 29 = .ok (.ifCond .ne 7, 3) := by decide +kernel
theorem dX7_would_32 : decode cX7_would 32 = .ok (.sipush (-1002), 3) := by decide +kernel
theorem dX7_would_35 : decode cX7_would 35 = .ok (.ireturn, 1) := by decide +kernel
theorem dX7_would_36 : decode cX7_would 36 = .ok (.aload_n 0, 1) := by decide +kernel
theorem dX7_would_37 : decode cX7_would 37 = .ok (.invokevirtual 98, 3) := by decide +kernel
theorem dX7_would_40 : decode cX7_would 40 = .ok (.aload_n 0, 1) := by decide +kernel
theorem dX7_would_41 : decode cX7_would 41 = .ok (.iload_n 1, 1) := by decide +kernel
theorem dX7_would_42 : decode cX7_would 42 = .ok (.iload_n 2, 1) := by decide +kernel
theorem dX7_would_43 : decode cX7_would 43 = .ok (.invokevirtual 86, 3) := by decide +kernel
theorem dX7_would_46 : decode cX7_would 46 = .ok (.iconst 0, 1) := by decide +kernel
theorem dX7_would_47 : decode cX7_would 47 = .ok (.istore 4, 2) := by decide +kernel
theorem dX7_would_49 : decode cX7_would 49 = .ok (.iload 4, 2) := by decide +kernel
theorem dX7_would_51 : decode cX7_would 51 = .ok (.sipush 311, 3) := by decide +kernel
theorem dX7_would_54 : decode cX7_would 54 = .ok (.if_icmp .ge 23, 3) := by decide +kernel
theorem dX7_would_57 : decode cX7_would 57 = .ok (.aload_n 0, 1) := by decide +kernel
theorem dX7_would_58 : decode cX7_would 58 = .ok (.getfield 7, 3) := by decide +kernel
theorem dX7_would_61 : decode cX7_would 61 = .ok (.iload 4, 2) := by decide +kernel
theorem dX7_would_63 : decode cX7_would 63 = .ok (.aload_n 0, 1) := by decide +kernel
theorem dX7_would_64 : decode cX7_would 64 = .ok (.getfield 13, 3) := by decide +kernel
theorem dX7_would_67 : decode cX7_would 67 = .ok (.iload 4, 2) := by decide +kernel
theorem dX7_would_69 : decode cX7_would 69 = .ok (.iaload, 1) := by decide +kernel
theorem dX7_would_70 : decode cX7_would 70 = .ok (.iastore, 1) := by decide +kernel
theorem dX7_would_71 : decode cX7_would 71 = .ok (.iinc 4 1, 3) := by decide +kernel
theorem dX7_would_74 : decode cX7_would 74 = .ok (.goto (-25), 3) := by decide +kernel
theorem dX7_would_77 : decode cX7_would 77 = .ok (.aload_n 0, 1) := by decide +kernel
theorem dX7_would_78 : decode cX7_would 78 = .ok (.getfield 22, 3) := by decide +kernel
theorem dX7_would_81 : decode cX7_would 81 = .ok (.iload_n 3, 1) := by decide +kernel
theorem dX7_would_82 : decode cX7_would 82 = .ok (.iaload, 1) := by decide +kernel
theorem dX7_would_83 : decode cX7_would 83 = .ok (.ireturn, 1) := by decide +kernel
theorem dX7_sand_0 : decode cX7_sand 0 = .ok (.iload_n 1, 1) := by decide +kernel
theorem dX7_sand_1 : decode cX7_sand 1 = .ok (.invokestatic 93, 3) := by decide +kernel
theorem dX7_sand_4 : decode cX7_sand 4 = .ok (.ifCond .eq 10, 3) := by decide +kernel
theorem dX7_sand_7 : decode cX7_sand 7 = .ok (.iload_n 2, 1) := by decide +kernel
theorem dX7_sand_8 : decode cX7_sand 8 = .ok (.invokestatic 93, 3) := by decide +kernel
theorem dX7_sand_11 : decode cX7_sand 11 = .ok (.ifCond .ne 7, 3) := by decide +kernel
theorem dX7_sand_14 : decode cX7_sand 14 = .ok (.sipush (-1001), 3) := by decide +kernel
theorem dX7_sand_17 : decode cX7_sand 17 = .ok (.ireturn, 1) := by decide +kernel
theorem dX7_sand_18 : decode cX7_sand 18 = .ok (.iload_n 2, 1) := by decide +kernel
theorem dX7_sand_19 : decode cX7_sand 19 = .ok (.iload_n 1, 1) := by decide +kernel
theorem dX7_sand_20 : decode cX7_sand 20 = .ok (.if_icmp .ge 9, 3) := by decide +kernel
theorem dX7_sand_23 : decode cX7_sand 23 = .ok (.sipush (-1002), 3) := by decide +kernel
theorem dX7_sand_26 : decode cX7_sand 26 = .ok (.goto 9, 3) := by decide +kernel
theorem dX7_sand_29 : decode cX7_sand 29 = .ok (.aload_n 0, 1) := by decide +kernel
theorem dX7_sand_30 : decode cX7_sand 30 = .ok (.iload_n 1, 1) := by decide +kernel
theorem dX7_sand_31 : decode cX7_sand 31 = .ok (.iload_n 2, 1) := by decide +kernel
theorem dX7_sand_32 : decode cX7_sand 32 = .ok (.invokevirtual 168, 3) := by decide +kernel
theorem dX7_sand_35 : decode cX7_sand 35 = .ok (.ireturn, 1) := by decide +kernel
theorem dX7_allMany_0 : decode cX7_allMany 0 = .ok (.iconst 0, 1) := by decide +kernel
theorem dX7_allMany_1 : decode cX7_allMany 1 = .ok (.istore_n 2, 1) := by decide +kernel
theorem dX7_allMany_2 : decode cX7_allMany 2 = .ok (.iconst 0, 1) := by decide +kernel
theorem dX7_allMany_3 : decode cX7_allMany 3 = .ok (.istore_n 3, 1) := by decide +kernel
theorem dX7_allMany_4 : decode cX7_allMany 4 = .ok (.iload_n 3, 1) := by decide +kernel
theorem dX7_allMany_5 : decode cX7_allMany 5 = .ok (.iconst 4, 1) := by decide +kernel
theorem dX7_allMany_6 : decode cX7_allMany 6 = .ok (.if_icmp .ge 21, 3) := by decide +kernel
theorem dX7_allMany_9 : decode cX7_allMany 9 = .ok (.iload_n 2, 1) := by decide +kernel
theorem dX7_allMany_10 : decode cX7_allMany 10 = .ok (.aload_n 0, 1) := by decide +kernel
theorem dX7_allMany_11 : decode cX7_allMany 11 = .ok (.iload_n 3, 1) := by decide +kernel
theorem dX7_allMany_12 : decode cX7_allMany 12 = .ok (.iload_n 1, 1) := by decide +kernel
theorem dX7_allMany_13 : decode cX7_allMany 13 = .ok (.invokevirtual 174, 3) := by decide +kernel
theorem dX7_allMany_16 : decode cX7_allMany 16 = .ok (.invokestatic 178, 3) := by decide +kernel
theorem dX7_allMany_19 : decode cX7_allMany 19 = .ok (.iadd, 1) := by decide +kernel
theorem dX7_allMany_20 : decode cX7_allMany 20 = .ok (.istore_n 2, 1) := by decide +kernel
theorem dX7_allMany_21 : decode cX7_allMany 21 = .ok (.iinc 3 1, 3) := by decide +kernel
theorem dX7_allMany_24 : decode cX7_allMany 24 = .ok (.goto (-20), 3) := by decide +kernel
theorem dX7_allMany_27 : decode cX7_allMany 27 = .ok (.iload_n 2, 1) := by decide +kernel
theorem dX7_allMany_28 : decode cX7_allMany 28 = .ok (.ireturn, 1) := by decide +kernel
theorem dX7_dryCells_0 : decode cX7_dryCells 0 = .ok (.iconst 0, 1) := by decide +kernel
theorem dX7_dryCells_1 : decode cX7_dryCells 1 = .ok (.istore_n 1, 1) := by decide +kernel
theorem dX7_dryCells_2 : decode cX7_dryCells 2 = .ok (.iconst 0, 1) := by decide +kernel
theorem dX7_dryCells_3 : decode cX7_dryCells 3 = .ok (.istore_n 2, 1) := by decide +kernel
theorem dX7_dryCells_4 : decode cX7_dryCells 4 = .ok (.iload_n 2, 1) := by decide +kernel
theorem dX7_dryCells_5 : decode cX7_dryCells 5 = .ok (.bipush 80, 2) := by decide +kernel
theorem dX7_dryCells_7 : decode cX7_dryCells 7 = .ok (.if_icmp .ge 32, 3) := by decide +kernel
theorem dX7_dryCells_10 : decode cX7_dryCells 10 = .ok (.iload_n 1, 1) := by decide +kernel
theorem dX7_dryCells_11 : decode cX7_dryCells 11 = .ok (.aload_n 0, 1) := by decide +kernel
theorem dX7_dryCells_12 : decode cX7_dryCells 12 = .ok (.iload_n 2, 1) := by decide +kernel
theorem dX7_dryCells_13 : decode cX7_dryCells 13 = .ok (.bipush 20, 2) := by decide +kernel
theorem dX7_dryCells_15 : decode cX7_dryCells 15 = .ok (.idiv, 1) := by decide +kernel
theorem dX7_dryCells_16 : decode cX7_dryCells 16 = .ok (.iload_n 2, 1) := by decide +kernel
theorem dX7_dryCells_17 : decode cX7_dryCells 17 = .ok (.bipush 20, 2) := by decide +kernel
theorem dX7_dryCells_19 : decode cX7_dryCells 19 = .ok (.irem, 1) := by decide +kernel
theorem dX7_dryCells_20 : decode cX7_dryCells 20 = .ok (.invokevirtual 61, 3) := by decide +kernel
theorem dX7_dryCells_23 : decode cX7_dryCells 23 = .ok (.ifCond .eq 7, 3) := by decide +kernel
theorem dX7_dryCells_26 : decode cX7_dryCells 26 = .ok (.iconst 1, 1) := by decide +kernel
theorem dX7_dryCells_27 : decode cX7_dryCells 27 = .ok (.goto 4, 3) := by decide +kernel
theorem dX7_dryCells_30 : decode cX7_dryCells 30 = .ok (.iconst 0, 1) := by decide +kernel
theorem dX7_dryCells_31 : decode cX7_dryCells 31 = .ok (.iadd, 1) := by decide +kernel
theorem dX7_dryCells_32 : decode cX7_dryCells 32 = .ok (.istore_n 1, 1) := by decide +kernel
theorem dX7_dryCells_33 : decode cX7_dryCells 33 = .ok (.iinc 2 1, 3) := by decide +kernel
theorem dX7_dryCells_36 : decode cX7_dryCells 36 = .ok (.goto (-32), 3) := by decide +kernel
theorem dX7_dryCells_39 : decode cX7_dryCells 39 = .ok (.iload_n 1, 1) := by decide +kernel
theorem dX7_dryCells_40 : decode cX7_dryCells 40 = .ok (.ireturn, 1) := by decide +kernel
theorem dX7_count_0 : decode cX7_count 0 = .ok (.iload_n 1, 1) := by decide +kernel
theorem dX7_count_1 : decode cX7_count 1 = .ok (.i2l, 1) := by decide +kernel
theorem dX7_count_2 : decode cX7_count 2 = .ok (.lconst 1, 1) := by decide +kernel
theorem dX7_count_3 : decode cX7_count 3 = .ok (.ldc2_w 192, 3) := by decide +kernel
theorem dX7_count_6 : decode cX7_count 6 = .ok (.invokestatic 43, 3) := by decide +kernel
theorem dX7_count_9 : decode cX7_count 9 = .ok (.ifCond .eq 16, 3) := by decide +kernel
theorem dX7_count_12 : decode cX7_count 12 = .ok (.aload_n 0, 1) := by decide +kernel
theorem dX7_count_13 : decode cX7_count 13 = .ok (.getfield 7, 3) := by decide +kernel
theorem dX7_count_16 : decode cX7_count 16 = .ok (.sipush 134, 3) := by decide +kernel
theorem dX7_count_19 : decode cX7_count 19 = .ok (.iload_n 1, 1) := by decide +kernel
theorem dX7_count_20 : decode cX7_count 20 = .ok (.iadd, 1) := by decide +kernel
theorem dX7_count_21 : decode cX7_count 21 = .ok (.iconst 1, 1) := by decide +kernel
theorem dX7_count_22 : decode cX7_count 22 = .ok (.isub, 1) := by decide +kernel
theorem dX7_count_23 : decode cX7_count 23 = .ok (.iaload, 1) := by decide +kernel
theorem dX7_count_24 : decode cX7_count 24 = .ok (.ireturn, 1) := by decide +kernel
theorem dX7_count_25 : decode cX7_count 25 = .ok (.iload_n 1, 1) := by decide +kernel
theorem dX7_count_26 : decode cX7_count 26 = .ok (.i2l, 1) := by decide +kernel
theorem dX7_count_27 : decode cX7_count 27 = .ok (.ldc2_w 194, 3) := by decide +kernel
theorem dX7_count_30 : decode cX7_count 30 = .ok (.ldc2_w 196, 3) := by decide +kernel
theorem dX7_count_33 : decode cX7_count 33 = .ok (.invokestatic 43, 3) := by decide +kernel
theorem dX7_count_36 : decode cX7_count 36 = .ok (.ifCond .eq 16, 3) := by decide +kernel
theorem dX7_count_39 : decode cX7_count 39 = .ok (.aload_n 0, 1) := by decide +kernel
theorem dX7_count_40 : decode cX7_count 40 = .ok (.getfield 7, 3) := by decide +kernel
theorem dX7_count_43 : decode cX7_count 43 = .ok (.bipush 81, 2) := by decide +kernel
theorem dX7_count_45 : decode cX7_count 45 = .ok (.iload_n 1, 1) := by decide +kernel
theorem dX7_count_46 : decode cX7_count 46 = .ok (.iadd, 1) := by decide +kernel
theorem dX7_count_47 : decode cX7_count 47 = .ok (.bipush 11, 2) := by decide +kernel
theorem dX7_count_49 : decode cX7_count 49 = .ok (.isub, 1) := by decide +kernel
theorem dX7_count_50 : decode cX7_count 50 = .ok (.iaload, 1) := by decide +kernel
theorem dX7_count_51 : decode cX7_count 51 = .ok (.ireturn, 1) := by decide +kernel
theorem dX7_count_52 : decode cX7_count 52 = .ok (.iload_n 1, 1) := by decide +kernel
theorem dX7_count_53 : decode cX7_count 53 = .ok (.tableswitch 150 0 19 #[95, 150, 150, 150, 150, 150, 150, 150, 150, 103, 111, 150, 150, 150, 150, 119, 119, 135, 140, 145], 95) := by decide +kernel
theorem dX7_count_148 : decode cX7_count 148 = .ok (.aload_n 0, 1) := by decide +kernel
theorem dX7_count_149 : decode cX7_count 149 = .ok (.iconst 0, 1) := by decide +kernel
theorem dX7_count_150 : decode cX7_count 150 = .ok (.bipush 19, 2) := by decide +kernel
theorem dX7_count_152 : decode cX7_count 152 = .ok (.invokevirtual 168, 3) := by decide +kernel
theorem dX7_count_155 : decode cX7_count 155 = .ok (.ireturn, 1) := by decide +kernel
theorem dX7_count_156 : decode cX7_count 156 = .ok (.aload_n 0, 1) := by decide +kernel
theorem dX7_count_157 : decode cX7_count 157 = .ok (.getfield 7, 3) := by decide +kernel
theorem dX7_count_160 : decode cX7_count 160 = .ok (.bipush 85, 2) := by decide +kernel
theorem dX7_count_162 : decode cX7_count 162 = .ok (.iaload, 1) := by decide +kernel
theorem dX7_count_163 : decode cX7_count 163 = .ok (.ireturn, 1) := by decide +kernel
theorem dX7_count_164 : decode cX7_count 164 = .ok (.aload_n 0, 1) := by decide +kernel
theorem dX7_count_165 : decode cX7_count 165 = .ok (.getfield 7, 3) := by decide +kernel
theorem dX7_count_168 : decode cX7_count 168 = .ok (.bipush 80, 2) := by decide +kernel
theorem dX7_count_170 : decode cX7_count 170 = .ok (.iaload, 1) := by decide +kernel
theorem dX7_count_171 : decode cX7_count 171 = .ok (.ireturn, 1) := by decide +kernel
theorem dX7_count_172 : decode cX7_count 172 = .ok (.aload_n 0, 1) := by decide +kernel
theorem dX7_count_173 : decode cX7_count 173 = .ok (.iload_n 1, 1) := by decide +kernel
theorem dX7_count_174 : decode cX7_count 174 = .ok (.bipush 16, 2) := by decide +kernel
theorem dX7_count_176 : decode cX7_count 176 = .ok (.if_icmp .ne 7, 3) := by decide +kernel
theorem dX7_count_179 : decode cX7_count 179 = .ok (.iconst 1, 1) := by decide +kernel
theorem dX7_count_180 : decode cX7_count 180 = .ok (.goto 4, 3) := by decide +kernel
theorem dX7_count_183 : decode cX7_count 183 = .ok (.iconst 0, 1) := by decide +kernel
theorem dX7_count_184 : decode cX7_count 184 = .ok (.invokevirtual 198, 3) := by decide +kernel
theorem dX7_count_187 : decode cX7_count 187 = .ok (.ireturn, 1) := by decide +kernel
theorem dX7_count_188 : decode cX7_count 188 = .ok (.aload_n 0, 1) := by decide +kernel
theorem dX7_count_189 : decode cX7_count 189 = .ok (.invokevirtual 202, 3) := by decide +kernel
theorem dX7_count_192 : decode cX7_count 192 = .ok (.ireturn, 1) := by decide +kernel
theorem dX7_count_193 : decode cX7_count 193 = .ok (.aload_n 0, 1) := by decide +kernel
theorem dX7_count_194 : decode cX7_count 194 = .ok (.getfield 37, 3) := by decide +kernel
theorem dX7_count_197 : decode cX7_count 197 = .ok (.ireturn, 1) := by decide +kernel
theorem dX7_count_198 : decode cX7_count 198 = .ok (.aload_n 0, 1) := by decide +kernel
theorem dX7_count_199 : decode cX7_count 199 = .ok (.getfield 137, 3) := by decide +kernel
theorem dX7_count_202 : decode cX7_count 202 = .ok (.ireturn, 1) := by decide +kernel
theorem dX7_count_203 : decode cX7_count 203 = .ok (.sipush (-1002), 3) := by decide +kernel
theorem dX7_count_206 : decode cX7_count 206 = .ok (.ireturn, 1) := by decide +kernel
theorem dJ6_bitCount_0f7a4_0 : decode cJ6_bitCount_0f7a4 0 = .ok (.iload_n 0, 1) := by decide +kernel
theorem dJ6_bitCount_0f7a4_1 : decode cJ6_bitCount_0f7a4 1 = .ok (.iload_n 0, 1) := by decide +kernel
theorem dJ6_bitCount_0f7a4_2 : decode cJ6_bitCount_0f7a4 2 = .ok (.iconst 1, 1) := by decide +kernel
theorem dJ6_bitCount_0f7a4_3 : decode cJ6_bitCount_0f7a4 3 = .ok (.iushr, 1) := by decide +kernel
theorem dJ6_bitCount_0f7a4_4 : decode cJ6_bitCount_0f7a4 4 = .ok (.ldc_w 265, 3) := by decide +kernel
theorem dJ6_bitCount_0f7a4_7 : decode cJ6_bitCount_0f7a4 7 = .ok (.iand, 1) := by decide +kernel
theorem dJ6_bitCount_0f7a4_8 : decode cJ6_bitCount_0f7a4 8 = .ok (.isub, 1) := by decide +kernel
theorem dJ6_bitCount_0f7a4_9 : decode cJ6_bitCount_0f7a4 9 = .ok (.istore_n 0, 1) := by decide +kernel
theorem dJ6_bitCount_0f7a4_10 : decode cJ6_bitCount_0f7a4 10 = .ok (.iload_n 0, 1) := by decide +kernel
theorem dJ6_bitCount_0f7a4_11 : decode cJ6_bitCount_0f7a4 11 = .ok (.ldc_w 266, 3) := by decide +kernel
theorem dJ6_bitCount_0f7a4_14 : decode cJ6_bitCount_0f7a4 14 = .ok (.iand, 1) := by decide +kernel
theorem dJ6_bitCount_0f7a4_15 : decode cJ6_bitCount_0f7a4 15 = .ok (.iload_n 0, 1) := by decide +kernel
theorem dJ6_bitCount_0f7a4_16 : decode cJ6_bitCount_0f7a4 16 = .ok (.iconst 2, 1) := by decide +kernel
theorem dJ6_bitCount_0f7a4_17 : decode cJ6_bitCount_0f7a4 17 = .ok (.iushr, 1) := by decide +kernel
theorem dJ6_bitCount_0f7a4_18 : decode cJ6_bitCount_0f7a4 18 = .ok (.ldc_w 266, 3) := by decide +kernel
theorem dJ6_bitCount_0f7a4_21 : decode cJ6_bitCount_0f7a4 21 = .ok (.iand, 1) := by decide +kernel
theorem dJ6_bitCount_0f7a4_22 : decode cJ6_bitCount_0f7a4 22 = .ok (.iadd, 1) := by decide +kernel
theorem dJ6_bitCount_0f7a4_23 : decode cJ6_bitCount_0f7a4 23 = .ok (.istore_n 0, 1) := by decide +kernel
theorem dJ6_bitCount_0f7a4_24 : decode cJ6_bitCount_0f7a4 24 = .ok (.iload_n 0, 1) := by decide +kernel
theorem dJ6_bitCount_0f7a4_25 : decode cJ6_bitCount_0f7a4 25 = .ok (.iload_n 0, 1) := by decide +kernel
theorem dJ6_bitCount_0f7a4_26 : decode cJ6_bitCount_0f7a4 26 = .ok (.iconst 4, 1) := by decide +kernel
theorem dJ6_bitCount_0f7a4_27 : decode cJ6_bitCount_0f7a4 27 = .ok (.iushr, 1) := by decide +kernel
theorem dJ6_bitCount_0f7a4_28 : decode cJ6_bitCount_0f7a4 28 = .ok (.iadd, 1) := by decide +kernel
theorem dJ6_bitCount_0f7a4_29 : decode cJ6_bitCount_0f7a4 29 = .ok (.ldc_w 267, 3) := by decide +kernel
theorem dJ6_bitCount_0f7a4_32 : decode cJ6_bitCount_0f7a4 32 = .ok (.iand, 1) := by decide +kernel
theorem dJ6_bitCount_0f7a4_33 : decode cJ6_bitCount_0f7a4 33 = .ok (.istore_n 0, 1) := by decide +kernel
theorem dJ6_bitCount_0f7a4_34 : decode cJ6_bitCount_0f7a4 34 = .ok (.iload_n 0, 1) := by decide +kernel
theorem dJ6_bitCount_0f7a4_35 : decode cJ6_bitCount_0f7a4 35 = .ok (.iload_n 0, 1) := by decide +kernel
theorem dJ6_bitCount_0f7a4_36 : decode cJ6_bitCount_0f7a4 36 = .ok (.bipush 8, 2) := by decide +kernel
theorem dJ6_bitCount_0f7a4_38 : decode cJ6_bitCount_0f7a4 38 = .ok (.iushr, 1) := by decide +kernel
theorem dJ6_bitCount_0f7a4_39 : decode cJ6_bitCount_0f7a4 39 = .ok (.iadd, 1) := by decide +kernel
theorem dJ6_bitCount_0f7a4_40 : decode cJ6_bitCount_0f7a4 40 = .ok (.istore_n 0, 1) := by decide +kernel
theorem dJ6_bitCount_0f7a4_41 : decode cJ6_bitCount_0f7a4 41 = .ok (.iload_n 0, 1) := by decide +kernel
theorem dJ6_bitCount_0f7a4_42 : decode cJ6_bitCount_0f7a4 42 = .ok (.iload_n 0, 1) := by decide +kernel
theorem dJ6_bitCount_0f7a4_43 : decode cJ6_bitCount_0f7a4 43 = .ok (.bipush 16, 2) := by decide +kernel
theorem dJ6_bitCount_0f7a4_45 : decode cJ6_bitCount_0f7a4 45 = .ok (.iushr, 1) := by decide +kernel
theorem dJ6_bitCount_0f7a4_46 : decode cJ6_bitCount_0f7a4 46 = .ok (.iadd, 1) := by decide +kernel
theorem dJ6_bitCount_0f7a4_47 : decode cJ6_bitCount_0f7a4 47 = .ok (.istore_n 0, 1) := by decide +kernel
theorem dJ6_bitCount_0f7a4_48 : decode cJ6_bitCount_0f7a4 48 = .ok (.iload_n 0, 1) := by decide +kernel
theorem dJ6_bitCount_0f7a4_49 : decode cJ6_bitCount_0f7a4 49 = .ok (.bipush 63, 2) := by decide +kernel
theorem dJ6_bitCount_0f7a4_51 : decode cJ6_bitCount_0f7a4 51 = .ok (.iand, 1) := by decide +kernel
theorem dJ6_bitCount_0f7a4_52 : decode cJ6_bitCount_0f7a4 52 = .ok (.ireturn, 1) := by decide +kernel
theorem dJ9_abs_0f7a4_0 : decode cJ9_abs_0f7a4 0 = .ok (.iload_n 0, 1) := by decide +kernel
theorem dJ9_abs_0f7a4_1 : decode cJ9_abs_0f7a4 1 = .ok (.ifCond .ge 8, 3) := by decide +kernel
theorem dJ9_abs_0f7a4_4 : decode cJ9_abs_0f7a4 4 = .ok (.iload_n 0, 1) := by decide +kernel
theorem dJ9_abs_0f7a4_5 : decode cJ9_abs_0f7a4 5 = .ok (.ineg, 1) := by decide +kernel
theorem dJ9_abs_0f7a4_6 : decode cJ9_abs_0f7a4 6 = .ok (.goto 4, 3) := by decide +kernel
theorem dJ9_abs_0f7a4_9 : decode cJ9_abs_0f7a4 9 = .ok (.iload_n 0, 1) := by decide +kernel
theorem dJ9_abs_0f7a4_10 : decode cJ9_abs_0f7a4 10 = .ok (.ireturn, 1) := by decide +kernel
theorem dJ9_max_7cf53_0 : decode cJ9_max_7cf53 0 = .ok (.iload_n 0, 1) := by decide +kernel
theorem dJ9_max_7cf53_1 : decode cJ9_max_7cf53 1 = .ok (.iload_n 1, 1) := by decide +kernel
theorem dJ9_max_7cf53_2 : decode cJ9_max_7cf53 2 = .ok (.if_icmp .lt 7, 3) := by decide +kernel
theorem dJ9_max_7cf53_5 : decode cJ9_max_7cf53 5 = .ok (.iload_n 0, 1) := by decide +kernel
theorem dJ9_max_7cf53_6 : decode cJ9_max_7cf53 6 = .ok (.goto 4, 3) := by decide +kernel
theorem dJ9_max_7cf53_9 : decode cJ9_max_7cf53 9 = .ok (.iload_n 1, 1) := by decide +kernel
theorem dJ9_max_7cf53_10 : decode cJ9_max_7cf53 10 = .ok (.ireturn, 1) := by decide +kernel
theorem dJ9_min_7cf53_0 : decode cJ9_min_7cf53 0 = .ok (.iload_n 0, 1) := by decide +kernel
theorem dJ9_min_7cf53_1 : decode cJ9_min_7cf53 1 = .ok (.iload_n 1, 1) := by decide +kernel
theorem dJ9_min_7cf53_2 : decode cJ9_min_7cf53 2 = .ok (.if_icmp .gt 7, 3) := by decide +kernel
theorem dJ9_min_7cf53_5 : decode cJ9_min_7cf53 5 = .ok (.iload_n 0, 1) := by decide +kernel
theorem dJ9_min_7cf53_6 : decode cJ9_min_7cf53 6 = .ok (.goto 4, 3) := by decide +kernel
theorem dJ9_min_7cf53_9 : decode cJ9_min_7cf53 9 = .ok (.iload_n 1, 1) := by decide +kernel
theorem dJ9_min_7cf53_10 : decode cJ9_min_7cf53 10 = .ok (.ireturn, 1) := by decide +kernel
theorem dL_law_0 : decode cL_law 0 = .ok (.new 7, 3) := by decide +kernel
theorem dL_law_3 : decode cL_law 3 = .ok (.dup, 1) := by decide +kernel
theorem dL_law_4 : decode cL_law 4 = .ok (.invokespecial 9, 3) := by decide +kernel
theorem dL_law_7 : decode cL_law 7 = .ok (.astore_n 1, 1) := by decide +kernel
theorem dL_law_8 : decode cL_law 8 = .ok (.new 10, 3) := by decide +kernel
theorem dL_law_11 : decode cL_law 11 = .ok (.dup, 1) := by decide +kernel
theorem dL_law_12 : decode cL_law 12 = .ok (.invokespecial 12, 3) := by decide +kernel
theorem dL_law_15 : decode cL_law 15 = .ok (.astore_n 2, 1) := by decide +kernel
theorem dL_law_16 : decode cL_law 16 = .ok (.iconst 0, 1) := by decide +kernel
theorem dL_law_17 : decode cL_law 17 = .ok (.istore_n 3, 1) := by decide +kernel
theorem dL_law_18 : decode cL_law 18 = .ok (.iload_n 3, 1) := by decide +kernel
theorem dL_law_19 : decode cL_law 19 = .ok (.aload_n 0, 1) := by decide +kernel
theorem dL_law_20 : decode cL_law 20 = .ok (.arraylength, 1) := by decide +kernel
theorem dL_law_21 : decode cL_law 21 = .ok (.iconst 4, 1) := by decide +kernel
theorem dL_law_22 : decode cL_law 22 = .ok (.isub, 1) := by decide +kernel
theorem dL_law_23 : decode cL_law 23 = .ok (.if_icmp .gt 659, 3) := by decide +kernel
theorem dL_law_26 : decode cL_law 26 = .ok (.aload_n 0, 1) := by decide +kernel
theorem dL_law_27 : decode cL_law 27 = .ok (.iload_n 3, 1) := by decide +kernel
theorem dL_law_28 : decode cL_law 28 = .ok (.iaload, 1) := by decide +kernel
theorem dL_law_29 : decode cL_law 29 = .ok (.bipush 31, 2) := by decide +kernel
theorem dL_law_31 : decode cL_law 31 = .ok (.iand, 1) := by decide +kernel
theorem dL_law_32 : decode cL_law 32 = .ok (.tableswitch 644 0 19 #[96, 139, 162, 195, 228, 241, 274, 297, 310, 335, 348, 361, 374, 387, 430, 463, 512, 545, 588, 621], 96) := by decide +kernel
theorem dL_law_128 : decode cL_law 128 = .ok (.aload_n 1, 1) := by decide +kernel
theorem dL_law_129 : decode cL_law 129 = .ok (.aload_n 0, 1) := by decide +kernel
theorem dL_law_130 : decode cL_law 130 = .ok (.iload_n 3, 1) := by decide +kernel
theorem dL_law_131 : decode cL_law 131 = .ok (.iconst 1, 1) := by decide +kernel
theorem dL_law_132 : decode cL_law 132 = .ok (.iadd, 1) := by decide +kernel
theorem dL_law_133 : decode cL_law 133 = .ok (.iaload, 1) := by decide +kernel
theorem dL_law_134 : decode cL_law 134 = .ok (.aload_n 0, 1) := by decide +kernel
theorem dL_law_135 : decode cL_law 135 = .ok (.iload_n 3, 1) := by decide +kernel
theorem dL_law_136 : decode cL_law 136 = .ok (.iconst 2, 1) := by decide +kernel
theorem dL_law_137 : decode cL_law 137 = .ok (.iadd, 1) := by decide +kernel
theorem dL_law_138 : decode cL_law 138 = .ok (.iaload, 1) := by decide +kernel
theorem dL_law_139 : decode cL_law 139 = .ok (.aload_n 0, 1) := by decide +kernel
theorem dL_law_140 : decode cL_law 140 = .ok (.iload_n 3, 1) := by decide +kernel
theorem dL_law_141 : decode cL_law 141 = .ok (.iconst 3, 1) := by decide +kernel
theorem dL_law_142 : decode cL_law 142 = .ok (.iadd, 1) := by decide +kernel
theorem dL_law_143 : decode cL_law 143 = .ok (.iaload, 1) := by decide +kernel
theorem dL_law_144 : decode cL_law 144 = .ok (.invokevirtual 13, 3) := by decide +kernel
theorem dL_law_147 : decode cL_law 147 = .ok (.aload_n 2, 1) := by decide +kernel
theorem dL_law_148 : decode cL_law 148 = .ok (.aload_n 0, 1) := by decide +kernel
theorem dL_law_149 : decode cL_law 149 = .ok (.iload_n 3, 1) := by decide +kernel
theorem dL_law_150 : decode cL_law 150 = .ok (.iconst 1, 1) := by decide +kernel
theorem dL_law_151 : decode cL_law 151 = .ok (.iadd, 1) := by decide +kernel
theorem dL_law_152 : decode cL_law 152 = .ok (.iaload, 1) := by decide +kernel
theorem dL_law_153 : decode cL_law 153 = .ok (.aload_n 0, 1) := by decide +kernel
theorem dL_law_154 : decode cL_law 154 = .ok (.iload_n 3, 1) := by decide +kernel
theorem dL_law_155 : decode cL_law 155 = .ok (.iconst 2, 1) := by decide +kernel
theorem dL_law_156 : decode cL_law 156 = .ok (.iadd, 1) := by decide +kernel
theorem dL_law_157 : decode cL_law 157 = .ok (.iaload, 1) := by decide +kernel
theorem dL_law_158 : decode cL_law 158 = .ok (.aload_n 0, 1) := by decide +kernel
theorem dL_law_159 : decode cL_law 159 = .ok (.iload_n 3, 1) := by decide +kernel
theorem dL_law_160 : decode cL_law 160 = .ok (.iconst 3, 1) := by decide +kernel
theorem dL_law_161 : decode cL_law 161 = .ok (.iadd, 1) := by decide +kernel
theorem dL_law_162 : decode cL_law 162 = .ok (.iaload, 1) := by decide +kernel
theorem dL_law_163 : decode cL_law 163 = .ok (.invokevirtual 17, 3) := by decide +kernel
theorem dL_law_166 : decode cL_law 166 = .ok (.if_icmp .eq 510, 3) := by decide +kernel
theorem dL_law_169 : decode cL_law 169 = .ok (.iconst 0, 1) := by decide +kernel
theorem dL_law_170 : decode cL_law 170 = .ok (.ireturn, 1) := by decide +kernel
theorem dL_law_171 : decode cL_law 171 = .ok (.aload_n 1, 1) := by decide +kernel
theorem dL_law_172 : decode cL_law 172 = .ok (.aload_n 0, 1) := by decide +kernel
theorem dL_law_173 : decode cL_law 173 = .ok (.iload_n 3, 1) := by decide +kernel
theorem dL_law_174 : decode cL_law 174 = .ok (.iconst 1, 1) := by decide +kernel
theorem dL_law_175 : decode cL_law 175 = .ok (.iadd, 1) := by decide +kernel
theorem dL_law_176 : decode cL_law 176 = .ok (.iaload, 1) := by decide +kernel
theorem dL_law_177 : decode cL_law 177 = .ok (.invokevirtual 18, 3) := by decide +kernel
theorem dL_law_180 : decode cL_law 180 = .ok (.aload_n 2, 1) := by decide +kernel
theorem dL_law_181 : decode cL_law 181 = .ok (.aload_n 0, 1) := by decide +kernel
theorem dL_law_182 : decode cL_law 182 = .ok (.iload_n 3, 1) := by decide +kernel
theorem dL_law_183 : decode cL_law 183 = .ok (.iconst 1, 1) := by decide +kernel
theorem dL_law_184 : decode cL_law 184 = .ok (.iadd, 1) := by decide +kernel
theorem dL_law_185 : decode cL_law 185 = .ok (.iaload, 1) := by decide +kernel
theorem dL_law_186 : decode cL_law 186 = .ok (.invokevirtual 22, 3) := by decide +kernel
theorem dL_law_189 : decode cL_law 189 = .ok (.if_icmp .eq 487, 3) := by decide +kernel
theorem dL_law_192 : decode cL_law 192 = .ok (.iconst 0, 1) := by decide +kernel
theorem dL_law_193 : decode cL_law 193 = .ok (.ireturn, 1) := by decide +kernel
theorem dL_law_194 : decode cL_law 194 = .ok (.aload_n 1, 1) := by decide +kernel
theorem dL_law_195 : decode cL_law 195 = .ok (.aload_n 0, 1) := by decide +kernel
theorem dL_law_196 : decode cL_law 196 = .ok (.iload_n 3, 1) := by decide +kernel
theorem dL_law_197 : decode cL_law 197 = .ok (.iconst 1, 1) := by decide +kernel
theorem dL_law_198 : decode cL_law 198 = .ok (.iadd, 1) := by decide +kernel
theorem dL_law_199 : decode cL_law 199 = .ok (.iaload, 1) := by decide +kernel
theorem dL_law_200 : decode cL_law 200 = .ok (.aload_n 0, 1) := by decide +kernel
theorem dL_law_201 : decode cL_law 201 = .ok (.iload_n 3, 1) := by decide +kernel
theorem dL_law_202 : decode cL_law 202 = .ok (.iconst 2, 1) := by decide +kernel
theorem dL_law_203 : decode cL_law 203 = .ok (.iadd, 1) := by decide +kernel
theorem dL_law_204 : decode cL_law 204 = .ok (.iaload, 1) := by decide +kernel
theorem dL_law_205 : decode cL_law 205 = .ok (.invokevirtual 23, 3) := by decide +kernel
theorem dL_law_208 : decode cL_law 208 = .ok (.aload_n 2, 1) := by decide +kernel
theorem dL_law_209 : decode cL_law 209 = .ok (.aload_n 0, 1) := by decide +kernel
theorem dL_law_210 : decode cL_law 210 = .ok (.iload_n 3, 1) := by decide +kernel
theorem dL_law_211 : decode cL_law 211 = .ok (.iconst 1, 1) := by decide +kernel
theorem dL_law_212 : decode cL_law 212 = .ok (.iadd, 1) := by decide +kernel
theorem dL_law_213 : decode cL_law 213 = .ok (.iaload, 1) := by decide +kernel
theorem dL_law_214 : decode cL_law 214 = .ok (.aload_n 0, 1) := by decide +kernel
theorem dL_law_215 : decode cL_law 215 = .ok (.iload_n 3, 1) := by decide +kernel
theorem dL_law_216 : decode cL_law 216 = .ok (.iconst 2, 1) := by decide +kernel
theorem dL_law_217 : decode cL_law 217 = .ok (.iadd, 1) := by decide +kernel
theorem dL_law_218 : decode cL_law 218 = .ok (.iaload, 1) := by decide +kernel
theorem dL_law_219 : decode cL_law 219 = .ok (.invokevirtual 27, 3) := by decide +kernel
theorem dL_law_222 : decode cL_law 222 = .ok (.if_icmp .eq 454, 3) := by decide +kernel
theorem dL_law_225 : decode cL_law 225 = .ok (.iconst 0, 1) := by decide +kernel
theorem dL_law_226 : decode cL_law 226 = .ok (.ireturn, 1) := by decide +kernel
theorem dL_law_227 : decode cL_law 227 = .ok (.aload_n 1, 1) := by decide +kernel
theorem dL_law_228 : decode cL_law 228 = .ok (.aload_n 0, 1) := by decide +kernel
theorem dL_law_229 : decode cL_law 229 = .ok (.iload_n 3, 1) := by decide +kernel
theorem dL_law_230 : decode cL_law 230 = .ok (.iconst 1, 1) := by decide +kernel
theorem dL_law_231 : decode cL_law 231 = .ok (.iadd, 1) := by decide +kernel
theorem dL_law_232 : decode cL_law 232 = .ok (.iaload, 1) := by decide +kernel
theorem dL_law_233 : decode cL_law 233 = .ok (.aload_n 0, 1) := by decide +kernel
theorem dL_law_234 : decode cL_law 234 = .ok (.iload_n 3, 1) := by decide +kernel
theorem dL_law_235 : decode cL_law 235 = .ok (.iconst 2, 1) := by decide +kernel
theorem dL_law_236 : decode cL_law 236 = .ok (.iadd, 1) := by decide +kernel
theorem dL_law_237 : decode cL_law 237 = .ok (.iaload, 1) := by decide +kernel
theorem dL_law_238 : decode cL_law 238 = .ok (.invokevirtual 28, 3) := by decide +kernel
theorem dL_law_241 : decode cL_law 241 = .ok (.aload_n 2, 1) := by decide +kernel
theorem dL_law_242 : decode cL_law 242 = .ok (.aload_n 0, 1) := by decide +kernel
theorem dL_law_243 : decode cL_law 243 = .ok (.iload_n 3, 1) := by decide +kernel
theorem dL_law_244 : decode cL_law 244 = .ok (.iconst 1, 1) := by decide +kernel
theorem dL_law_245 : decode cL_law 245 = .ok (.iadd, 1) := by decide +kernel
theorem dL_law_246 : decode cL_law 246 = .ok (.iaload, 1) := by decide +kernel
theorem dL_law_247 : decode cL_law 247 = .ok (.aload_n 0, 1) := by decide +kernel
theorem dL_law_248 : decode cL_law 248 = .ok (.iload_n 3, 1) := by decide +kernel
theorem dL_law_249 : decode cL_law 249 = .ok (.iconst 2, 1) := by decide +kernel
theorem dL_law_250 : decode cL_law 250 = .ok (.iadd, 1) := by decide +kernel
theorem dL_law_251 : decode cL_law 251 = .ok (.iaload, 1) := by decide +kernel
theorem dL_law_252 : decode cL_law 252 = .ok (.invokevirtual 31, 3) := by decide +kernel
theorem dL_law_255 : decode cL_law 255 = .ok (.if_icmp .eq 421, 3) := by decide +kernel
theorem dL_law_258 : decode cL_law 258 = .ok (.iconst 0, 1) := by decide +kernel
theorem dL_law_259 : decode cL_law 259 = .ok (.ireturn, 1) := by decide +kernel
theorem dL_law_260 : decode cL_law 260 = .ok (.aload_n 1, 1) := by decide +kernel
theorem dL_law_261 : decode cL_law 261 = .ok (.invokevirtual 32, 3) := by decide +kernel
theorem dL_law_264 : decode cL_law 264 = .ok (.aload_n 2, 1) := by decide +kernel
theorem dL_law_265 : decode cL_law 265 = .ok (.invokevirtual 36, 3) := by decide +kernel
theorem dL_law_268 : decode cL_law 268 = .ok (.if_icmp .eq 408, 3) := by decide +kernel
theorem dL_law_271 : decode cL_law 271 = .ok (.iconst 0, 1) := by decide +kernel
theorem dL_law_272 : decode cL_law 272 = .ok (.ireturn, 1) := by decide +kernel
theorem dL_law_273 : decode cL_law 273 = .ok (.aload_n 1, 1) := by decide +kernel
theorem dL_law_274 : decode cL_law 274 = .ok (.aload_n 0, 1) := by decide +kernel
theorem dL_law_275 : decode cL_law 275 = .ok (.iload_n 3, 1) := by decide +kernel
theorem dL_law_276 : decode cL_law 276 = .ok (.iconst 1, 1) := by decide +kernel
theorem dL_law_277 : decode cL_law 277 = .ok (.iadd, 1) := by decide +kernel
theorem dL_law_278 : decode cL_law 278 = .ok (.iaload, 1) := by decide +kernel
theorem dL_law_279 : decode cL_law 279 = .ok (.aload_n 0, 1) := by decide +kernel
theorem dL_law_280 : decode cL_law 280 = .ok (.iload_n 3, 1) := by decide +kernel
theorem dL_law_281 : decode cL_law 281 = .ok (.iconst 2, 1) := by decide +kernel
theorem dL_law_282 : decode cL_law 282 = .ok (.iadd, 1) := by decide +kernel
theorem dL_law_283 : decode cL_law 283 = .ok (.iaload, 1) := by decide +kernel
theorem dL_law_284 : decode cL_law 284 = .ok (.invokevirtual 37, 3) := by decide +kernel
theorem dL_law_287 : decode cL_law 287 = .ok (.aload_n 2, 1) := by decide +kernel
theorem dL_law_288 : decode cL_law 288 = .ok (.aload_n 0, 1) := by decide +kernel
theorem dL_law_289 : decode cL_law 289 = .ok (.iload_n 3, 1) := by decide +kernel
theorem dL_law_290 : decode cL_law 290 = .ok (.iconst 1, 1) := by decide +kernel
theorem dL_law_291 : decode cL_law 291 = .ok (.iadd, 1) := by decide +kernel
theorem dL_law_292 : decode cL_law 292 = .ok (.iaload, 1) := by decide +kernel
theorem dL_law_293 : decode cL_law 293 = .ok (.aload_n 0, 1) := by decide +kernel
theorem dL_law_294 : decode cL_law 294 = .ok (.iload_n 3, 1) := by decide +kernel
theorem dL_law_295 : decode cL_law 295 = .ok (.iconst 2, 1) := by decide +kernel
theorem dL_law_296 : decode cL_law 296 = .ok (.iadd, 1) := by decide +kernel
theorem dL_law_297 : decode cL_law 297 = .ok (.iaload, 1) := by decide +kernel
theorem dL_law_298 : decode cL_law 298 = .ok (.invokevirtual 40, 3) := by decide +kernel
theorem dL_law_301 : decode cL_law 301 = .ok (.if_icmp .eq 375, 3) := by decide +kernel
theorem dL_law_304 : decode cL_law 304 = .ok (.iconst 0, 1) := by decide +kernel
theorem dL_law_305 : decode cL_law 305 = .ok (.ireturn, 1) := by decide +kernel
theorem dL_law_306 : decode cL_law 306 = .ok (.aload_n 1, 1) := by decide +kernel
theorem dL_law_307 : decode cL_law 307 = .ok (.aload_n 0, 1) := by decide +kernel
theorem dL_law_308 : decode cL_law 308 = .ok (.iload_n 3, 1) := by decide +kernel
theorem dL_law_309 : decode cL_law 309 = .ok (.iconst 1, 1) := by decide +kernel
theorem dL_law_310 : decode cL_law 310 = .ok (.iadd, 1) := by decide +kernel
theorem dL_law_311 : decode cL_law 311 = .ok (.iaload, 1) := by decide +kernel
theorem dL_law_312 : decode cL_law 312 = .ok (.invokevirtual 41, 3) := by decide +kernel
theorem dL_law_315 : decode cL_law 315 = .ok (.aload_n 2, 1) := by decide +kernel
theorem dL_law_316 : decode cL_law 316 = .ok (.aload_n 0, 1) := by decide +kernel
theorem dL_law_317 : decode cL_law 317 = .ok (.iload_n 3, 1) := by decide +kernel
theorem dL_law_318 : decode cL_law 318 = .ok (.iconst 1, 1) := by decide +kernel
theorem dL_law_319 : decode cL_law 319 = .ok (.iadd, 1) := by decide +kernel
theorem dL_law_320 : decode cL_law 320 = .ok (.iaload, 1) := by decide +kernel
theorem dL_law_321 : decode cL_law 321 = .ok (.invokevirtual 44, 3) := by decide +kernel
theorem dL_law_324 : decode cL_law 324 = .ok (.if_icmp .eq 352, 3) := by decide +kernel
theorem dL_law_327 : decode cL_law 327 = .ok (.iconst 0, 1) := by decide +kernel
theorem dL_law_328 : decode cL_law 328 = .ok (.ireturn, 1) := by decide +kernel
theorem dL_law_329 : decode cL_law 329 = .ok (.aload_n 1, 1) := by decide +kernel
theorem dL_law_330 : decode cL_law 330 = .ok (.invokevirtual 45, 3) := by decide +kernel
theorem dL_law_333 : decode cL_law 333 = .ok (.aload_n 2, 1) := by decide +kernel
theorem dL_law_334 : decode cL_law 334 = .ok (.invokevirtual 48, 3) := by decide +kernel
theorem dL_law_337 : decode cL_law 337 = .ok (.if_icmp .eq 339, 3) := by decide +kernel
theorem dL_law_340 : decode cL_law 340 = .ok (.iconst 0, 1) := by decide +kernel
theorem dL_law_341 : decode cL_law 341 = .ok (.ireturn, 1) := by decide +kernel
theorem dL_law_342 : decode cL_law 342 = .ok (.aload_n 1, 1) := by decide +kernel
theorem dL_law_343 : decode cL_law 343 = .ok (.aload_n 0, 1) := by decide +kernel
theorem dL_law_344 : decode cL_law 344 = .ok (.iload_n 3, 1) := by decide +kernel
theorem dL_law_345 : decode cL_law 345 = .ok (.iconst 1, 1) := by decide +kernel
theorem dL_law_346 : decode cL_law 346 = .ok (.iadd, 1) := by decide +kernel
theorem dL_law_347 : decode cL_law 347 = .ok (.iaload, 1) := by decide +kernel
theorem dL_law_348 : decode cL_law 348 = .ok (.i2c, 1) := by decide +kernel
theorem dL_law_349 : decode cL_law 349 = .ok (.invokevirtual 49, 3) := by decide +kernel
theorem dL_law_352 : decode cL_law 352 = .ok (.aload_n 2, 1) := by decide +kernel
theorem dL_law_353 : decode cL_law 353 = .ok (.aload_n 0, 1) := by decide +kernel
theorem dL_law_354 : decode cL_law 354 = .ok (.iload_n 3, 1) := by decide +kernel
theorem dL_law_355 : decode cL_law 355 = .ok (.iconst 1, 1) := by decide +kernel
theorem dL_law_356 : decode cL_law 356 = .ok (.iadd, 1) := by decide +kernel
theorem dL_law_357 : decode cL_law 357 = .ok (.iaload, 1) := by decide +kernel
theorem dL_law_358 : decode cL_law 358 = .ok (.i2c, 1) := by decide +kernel
theorem dL_law_359 : decode cL_law 359 = .ok (.invokevirtual 53, 3) := by decide +kernel
theorem dL_law_362 : decode cL_law 362 = .ok (.if_icmp .eq 314, 3) := by decide +kernel
theorem dL_law_365 : decode cL_law 365 = .ok (.iconst 0, 1) := by decide +kernel
theorem dL_law_366 : decode cL_law 366 = .ok (.ireturn, 1) := by decide +kernel
theorem dL_law_367 : decode cL_law 367 = .ok (.aload_n 1, 1) := by decide +kernel
theorem dL_law_368 : decode cL_law 368 = .ok (.invokevirtual 54, 3) := by decide +kernel
theorem dL_law_371 : decode cL_law 371 = .ok (.aload_n 2, 1) := by decide +kernel
theorem dL_law_372 : decode cL_law 372 = .ok (.invokevirtual 57, 3) := by decide +kernel
theorem dL_law_375 : decode cL_law 375 = .ok (.if_icmp .eq 301, 3) := by decide +kernel
theorem dL_law_378 : decode cL_law 378 = .ok (.iconst 0, 1) := by decide +kernel
theorem dL_law_379 : decode cL_law 379 = .ok (.ireturn, 1) := by decide +kernel
theorem dL_law_380 : decode cL_law 380 = .ok (.aload_n 1, 1) := by decide +kernel
theorem dL_law_381 : decode cL_law 381 = .ok (.invokevirtual 58, 3) := by decide +kernel
theorem dL_law_384 : decode cL_law 384 = .ok (.aload_n 2, 1) := by decide +kernel
theorem dL_law_385 : decode cL_law 385 = .ok (.invokevirtual 61, 3) := by decide +kernel
theorem dL_law_388 : decode cL_law 388 = .ok (.if_icmp .eq 288, 3) := by decide +kernel
theorem dL_law_391 : decode cL_law 391 = .ok (.iconst 0, 1) := by decide +kernel
theorem dL_law_392 : decode cL_law 392 = .ok (.ireturn, 1) := by decide +kernel
theorem dL_law_393 : decode cL_law 393 = .ok (.aload_n 1, 1) := by decide +kernel
theorem dL_law_394 : decode cL_law 394 = .ok (.invokevirtual 62, 3) := by decide +kernel
theorem dL_law_397 : decode cL_law 397 = .ok (.aload_n 2, 1) := by decide +kernel
theorem dL_law_398 : decode cL_law 398 = .ok (.invokevirtual 65, 3) := by decide +kernel
theorem dL_law_401 : decode cL_law 401 = .ok (.if_icmp .eq 275, 3) := by decide +kernel
theorem dL_law_404 : decode cL_law 404 = .ok (.iconst 0, 1) := by decide +kernel
theorem dL_law_405 : decode cL_law 405 = .ok (.ireturn, 1) := by decide +kernel
theorem dL_law_406 : decode cL_law 406 = .ok (.aload_n 1, 1) := by decide +kernel
theorem dL_law_407 : decode cL_law 407 = .ok (.invokevirtual 66, 3) := by decide +kernel
theorem dL_law_410 : decode cL_law 410 = .ok (.aload_n 2, 1) := by decide +kernel
theorem dL_law_411 : decode cL_law 411 = .ok (.invokevirtual 69, 3) := by decide +kernel
theorem dL_law_414 : decode cL_law 414 = .ok (.if_icmp .eq 262, 3) := by decide +kernel
theorem dL_law_417 : decode cL_law 417 = .ok (.iconst 0, 1) := by decide +kernel
theorem dL_law_418 : decode cL_law 418 = .ok (.ireturn, 1) := by decide +kernel
theorem dL_law_419 : decode cL_law 419 = .ok (.aload_n 1, 1) := by decide +kernel
theorem dL_law_420 : decode cL_law 420 = .ok (.aload_n 0, 1) := by decide +kernel
theorem dL_law_421 : decode cL_law 421 = .ok (.iload_n 3, 1) := by decide +kernel
theorem dL_law_422 : decode cL_law 422 = .ok (.iconst 1, 1) := by decide +kernel
theorem dL_law_423 : decode cL_law 423 = .ok (.iadd, 1) := by decide +kernel
theorem dL_law_424 : decode cL_law 424 = .ok (.iaload, 1) := by decide +kernel
theorem dL_law_425 : decode cL_law 425 = .ok (.aload_n 0, 1) := by decide +kernel
theorem dL_law_426 : decode cL_law 426 = .ok (.iload_n 3, 1) := by decide +kernel
theorem dL_law_427 : decode cL_law 427 = .ok (.iconst 2, 1) := by decide +kernel
theorem dL_law_428 : decode cL_law 428 = .ok (.iadd, 1) := by decide +kernel
theorem dL_law_429 : decode cL_law 429 = .ok (.iaload, 1) := by decide +kernel
theorem dL_law_430 : decode cL_law 430 = .ok (.aload_n 0, 1) := by decide +kernel
theorem dL_law_431 : decode cL_law 431 = .ok (.iload_n 3, 1) := by decide +kernel
theorem dL_law_432 : decode cL_law 432 = .ok (.iconst 3, 1) := by decide +kernel
theorem dL_law_433 : decode cL_law 433 = .ok (.iadd, 1) := by decide +kernel
theorem dL_law_434 : decode cL_law 434 = .ok (.iaload, 1) := by decide +kernel
theorem dL_law_435 : decode cL_law 435 = .ok (.invokevirtual 70, 3) := by decide +kernel
theorem dL_law_438 : decode cL_law 438 = .ok (.aload_n 2, 1) := by decide +kernel
theorem dL_law_439 : decode cL_law 439 = .ok (.aload_n 0, 1) := by decide +kernel
theorem dL_law_440 : decode cL_law 440 = .ok (.iload_n 3, 1) := by decide +kernel
theorem dL_law_441 : decode cL_law 441 = .ok (.iconst 1, 1) := by decide +kernel
theorem dL_law_442 : decode cL_law 442 = .ok (.iadd, 1) := by decide +kernel
theorem dL_law_443 : decode cL_law 443 = .ok (.iaload, 1) := by decide +kernel
theorem dL_law_444 : decode cL_law 444 = .ok (.aload_n 0, 1) := by decide +kernel
theorem dL_law_445 : decode cL_law 445 = .ok (.iload_n 3, 1) := by decide +kernel
theorem dL_law_446 : decode cL_law 446 = .ok (.iconst 2, 1) := by decide +kernel
theorem dL_law_447 : decode cL_law 447 = .ok (.iadd, 1) := by decide +kernel
theorem dL_law_448 : decode cL_law 448 = .ok (.iaload, 1) := by decide +kernel
theorem dL_law_449 : decode cL_law 449 = .ok (.aload_n 0, 1) := by decide +kernel
theorem dL_law_450 : decode cL_law 450 = .ok (.iload_n 3, 1) := by decide +kernel
theorem dL_law_451 : decode cL_law 451 = .ok (.iconst 3, 1) := by decide +kernel
theorem dL_law_452 : decode cL_law 452 = .ok (.iadd, 1) := by decide +kernel
theorem dL_law_453 : decode cL_law 453 = .ok (.iaload, 1) := by decide +kernel
theorem dL_law_454 : decode cL_law 454 = .ok (.invokevirtual 73, 3) := by decide +kernel
theorem dL_law_457 : decode cL_law 457 = .ok (.if_icmp .eq 219, 3) := by decide +kernel
theorem dL_law_460 : decode cL_law 460 = .ok (.iconst 0, 1) := by decide +kernel
theorem dL_law_461 : decode cL_law 461 = .ok (.ireturn, 1) := by decide +kernel
theorem dL_law_462 : decode cL_law 462 = .ok (.aload_n 1, 1) := by decide +kernel
theorem dL_law_463 : decode cL_law 463 = .ok (.aload_n 0, 1) := by decide +kernel
theorem dL_law_464 : decode cL_law 464 = .ok (.iload_n 3, 1) := by decide +kernel
theorem dL_law_465 : decode cL_law 465 = .ok (.iconst 1, 1) := by decide +kernel
theorem dL_law_466 : decode cL_law 466 = .ok (.iadd, 1) := by decide +kernel
theorem dL_law_467 : decode cL_law 467 = .ok (.iaload, 1) := by decide +kernel
theorem dL_law_468 : decode cL_law 468 = .ok (.aload_n 0, 1) := by decide +kernel
theorem dL_law_469 : decode cL_law 469 = .ok (.iload_n 3, 1) := by decide +kernel
theorem dL_law_470 : decode cL_law 470 = .ok (.iconst 2, 1) := by decide +kernel
theorem dL_law_471 : decode cL_law 471 = .ok (.iadd, 1) := by decide +kernel
theorem dL_law_472 : decode cL_law 472 = .ok (.iaload, 1) := by decide +kernel
theorem dL_law_473 : decode cL_law 473 = .ok (.invokevirtual 74, 3) := by decide +kernel
theorem dL_law_476 : decode cL_law 476 = .ok (.aload_n 2, 1) := by decide +kernel
theorem dL_law_477 : decode cL_law 477 = .ok (.aload_n 0, 1) := by decide +kernel
theorem dL_law_478 : decode cL_law 478 = .ok (.iload_n 3, 1) := by decide +kernel
theorem dL_law_479 : decode cL_law 479 = .ok (.iconst 1, 1) := by decide +kernel
theorem dL_law_480 : decode cL_law 480 = .ok (.iadd, 1) := by decide +kernel
theorem dL_law_481 : decode cL_law 481 = .ok (.iaload, 1) := by decide +kernel
theorem dL_law_482 : decode cL_law 482 = .ok (.aload_n 0, 1) := by decide +kernel
theorem dL_law_483 : decode cL_law 483 = .ok (.iload_n 3, 1) := by decide +kernel
theorem dL_law_484 : decode cL_law 484 = .ok (.iconst 2, 1) := by decide +kernel
theorem dL_law_485 : decode cL_law 485 = .ok (.iadd, 1) := by decide +kernel
theorem dL_law_486 : decode cL_law 486 = .ok (.iaload, 1) := by decide +kernel
theorem dL_law_487 : decode cL_law 487 = .ok (.invokevirtual 77, 3) := by decide +kernel
theorem dL_law_490 : decode cL_law 490 = .ok (.if_icmp .eq 186, 3) := by decide +kernel
theorem dL_law_493 : decode cL_law 493 = .ok (.iconst 0, 1) := by decide +kernel
theorem dL_law_494 : decode cL_law 494 = .ok (.ireturn, 1) := by decide +kernel
theorem dL_law_495 : decode cL_law 495 = .ok (.aload_n 1, 1) := by decide +kernel
theorem dL_law_496 : decode cL_law 496 = .ok (.aload_n 0, 1) := by decide +kernel
theorem dL_law_497 : decode cL_law 497 = .ok (.iload_n 3, 1) := by decide +kernel
theorem dL_law_498 : decode cL_law 498 = .ok (.iconst 1, 1) := by decide +kernel
theorem dL_law_499 : decode cL_law 499 = .ok (.iadd, 1) := by decide +kernel
theorem dL_law_500 : decode cL_law 500 = .ok (.iaload, 1) := by decide +kernel
theorem dL_law_501 : decode cL_law 501 = .ok (.aload_n 0, 1) := by decide +kernel
theorem dL_law_502 : decode cL_law 502 = .ok (.iload_n 3, 1) := by decide +kernel
theorem dL_law_503 : decode cL_law 503 = .ok (.iconst 2, 1) := by decide +kernel
theorem dL_law_504 : decode cL_law 504 = .ok (.iadd, 1) := by decide +kernel
theorem dL_law_505 : decode cL_law 505 = .ok (.iaload, 1) := by decide +kernel
theorem dL_law_506 : decode cL_law 506 = .ok (.ifCond .eq 7, 3) := by decide +kernel
theorem dL_law_509 : decode cL_law 509 = .ok (.iconst 1, 1) := by decide +kernel
theorem dL_law_510 : decode cL_law 510 = .ok (.goto 4, 3) := by decide +kernel
theorem dL_law_513 : decode cL_law 513 = .ok (.iconst 0, 1) := by decide +kernel
theorem dL_law_514 : decode cL_law 514 = .ok (.invokevirtual 78, 3) := by decide +kernel
theorem dL_law_517 : decode cL_law 517 = .ok (.aload_n 2, 1) := by decide +kernel
theorem dL_law_518 : decode cL_law 518 = .ok (.aload_n 0, 1) := by decide +kernel
theorem dL_law_519 : decode cL_law 519 = .ok (.iload_n 3, 1) := by decide +kernel
theorem dL_law_520 : decode cL_law 520 = .ok (.iconst 1, 1) := by decide +kernel
theorem dL_law_521 : decode cL_law 521 = .ok (.iadd, 1) := by decide +kernel
theorem dL_law_522 : decode cL_law 522 = .ok (.iaload, 1) := by decide +kernel
theorem dL_law_523 : decode cL_law 523 = .ok (.aload_n 0, 1) := by decide +kernel
theorem dL_law_524 : decode cL_law 524 = .ok (.iload_n 3, 1) := by decide +kernel
theorem dL_law_525 : decode cL_law 525 = .ok (.iconst 2, 1) := by decide +kernel
theorem dL_law_526 : decode cL_law 526 = .ok (.iadd, 1) := by decide +kernel
theorem dL_law_527 : decode cL_law 527 = .ok (.iaload, 1) := by decide +kernel
theorem dL_law_528 : decode cL_law 528 = .ok (.ifCond .eq 7, 3) := by decide +kernel
theorem dL_law_531 : decode cL_law 531 = .ok (.iconst 1, 1) := by decide +kernel
theorem dL_law_532 : decode cL_law 532 = .ok (.goto 4, 3) := by decide +kernel
theorem dL_law_535 : decode cL_law 535 = .ok (.iconst 0, 1) := by decide +kernel
theorem dL_law_536 : decode cL_law 536 = .ok (.invokevirtual 82, 3) := by decide +kernel
theorem dL_law_539 : decode cL_law 539 = .ok (.if_icmp .eq 137, 3) := by decide +kernel
theorem dL_law_542 : decode cL_law 542 = .ok (.iconst 0, 1) := by decide +kernel
theorem dL_law_543 : decode cL_law 543 = .ok (.ireturn, 1) := by decide +kernel
theorem dL_law_544 : decode cL_law 544 = .ok (.aload_n 1, 1) := by decide +kernel
theorem dL_law_545 : decode cL_law 545 = .ok (.aload_n 0, 1) := by decide +kernel
theorem dL_law_546 : decode cL_law 546 = .ok (.iload_n 3, 1) := by decide +kernel
theorem dL_law_547 : decode cL_law 547 = .ok (.iconst 1, 1) := by decide +kernel
theorem dL_law_548 : decode cL_law 548 = .ok (.iadd, 1) := by decide +kernel
theorem dL_law_549 : decode cL_law 549 = .ok (.iaload, 1) := by decide +kernel
theorem dL_law_550 : decode cL_law 550 = .ok (.aload_n 0, 1) := by decide +kernel
theorem dL_law_551 : decode cL_law 551 = .ok (.iload_n 3, 1) := by decide +kernel
theorem dL_law_552 : decode cL_law 552 = .ok (.iconst 2, 1) := by decide +kernel
theorem dL_law_553 : decode cL_law 553 = .ok (.iadd, 1) := by decide +kernel
theorem dL_law_554 : decode cL_law 554 = .ok (.iaload, 1) := by decide +kernel
theorem dL_law_555 : decode cL_law 555 = .ok (.invokevirtual 83, 3) := by decide +kernel
theorem dL_law_558 : decode cL_law 558 = .ok (.aload_n 2, 1) := by decide +kernel
theorem dL_law_559 : decode cL_law 559 = .ok (.aload_n 0, 1) := by decide +kernel
theorem dL_law_560 : decode cL_law 560 = .ok (.iload_n 3, 1) := by decide +kernel
theorem dL_law_561 : decode cL_law 561 = .ok (.iconst 1, 1) := by decide +kernel
theorem dL_law_562 : decode cL_law 562 = .ok (.iadd, 1) := by decide +kernel
theorem dL_law_563 : decode cL_law 563 = .ok (.iaload, 1) := by decide +kernel
theorem dL_law_564 : decode cL_law 564 = .ok (.aload_n 0, 1) := by decide +kernel
theorem dL_law_565 : decode cL_law 565 = .ok (.iload_n 3, 1) := by decide +kernel
theorem dL_law_566 : decode cL_law 566 = .ok (.iconst 2, 1) := by decide +kernel
theorem dL_law_567 : decode cL_law 567 = .ok (.iadd, 1) := by decide +kernel
theorem dL_law_568 : decode cL_law 568 = .ok (.iaload, 1) := by decide +kernel
theorem dL_law_569 : decode cL_law 569 = .ok (.invokevirtual 86, 3) := by decide +kernel
theorem dL_law_572 : decode cL_law 572 = .ok (.if_icmp .eq 104, 3) := by decide +kernel
theorem dL_law_575 : decode cL_law 575 = .ok (.iconst 0, 1) := by decide +kernel
theorem dL_law_576 : decode cL_law 576 = .ok (.ireturn, 1) := by decide +kernel
theorem dL_law_577 : decode cL_law 577 = .ok (.aload_n 1, 1) := by decide +kernel
theorem dL_law_578 : decode cL_law 578 = .ok (.aload_n 0, 1) := by decide +kernel
theorem dL_law_579 : decode cL_law 579 = .ok (.iload_n 3, 1) := by decide +kernel
theorem dL_law_580 : decode cL_law 580 = .ok (.iconst 1, 1) := by decide +kernel
theorem dL_law_581 : decode cL_law 581 = .ok (.iadd, 1) := by decide +kernel
theorem dL_law_582 : decode cL_law 582 = .ok (.iaload, 1) := by decide +kernel
theorem dL_law_583 : decode cL_law 583 = .ok (.aload_n 0, 1) := by decide +kernel
theorem dL_law_584 : decode cL_law 584 = .ok (.iload_n 3, 1) := by decide +kernel
theorem dL_law_585 : decode cL_law 585 = .ok (.iconst 2, 1) := by decide +kernel
theorem dL_law_586 : decode cL_law 586 = .ok (.iadd, 1) := by decide +kernel
theorem dL_law_587 : decode cL_law 587 = .ok (.iaload, 1) := by decide +kernel
theorem dL_law_588 : decode cL_law 588 = .ok (.aload_n 0, 1) := by decide +kernel
theorem dL_law_589 : decode cL_law 589 = .ok (.iload_n 3, 1) := by decide +kernel
theorem dL_law_590 : decode cL_law 590 = .ok (.iconst 3, 1) := by decide +kernel
theorem dL_law_591 : decode cL_law 591 = .ok (.iadd, 1) := by decide +kernel
theorem dL_law_592 : decode cL_law 592 = .ok (.iaload, 1) := by decide +kernel
theorem dL_law_593 : decode cL_law 593 = .ok (.invokevirtual 87, 3) := by decide +kernel
theorem dL_law_596 : decode cL_law 596 = .ok (.aload_n 2, 1) := by decide +kernel
theorem dL_law_597 : decode cL_law 597 = .ok (.aload_n 0, 1) := by decide +kernel
theorem dL_law_598 : decode cL_law 598 = .ok (.iload_n 3, 1) := by decide +kernel
theorem dL_law_599 : decode cL_law 599 = .ok (.iconst 1, 1) := by decide +kernel
theorem dL_law_600 : decode cL_law 600 = .ok (.iadd, 1) := by decide +kernel
theorem dL_law_601 : decode cL_law 601 = .ok (.iaload, 1) := by decide +kernel
theorem dL_law_602 : decode cL_law 602 = .ok (.aload_n 0, 1) := by decide +kernel
theorem dL_law_603 : decode cL_law 603 = .ok (.iload_n 3, 1) := by decide +kernel
theorem dL_law_604 : decode cL_law 604 = .ok (.iconst 2, 1) := by decide +kernel
theorem dL_law_605 : decode cL_law 605 = .ok (.iadd, 1) := by decide +kernel
theorem dL_law_606 : decode cL_law 606 = .ok (.iaload, 1) := by decide +kernel
theorem dL_law_607 : decode cL_law 607 = .ok (.aload_n 0, 1) := by decide +kernel
theorem dL_law_608 : decode cL_law 608 = .ok (.iload_n 3, 1) := by decide +kernel
theorem dL_law_609 : decode cL_law 609 = .ok (.iconst 3, 1) := by decide +kernel
theorem dL_law_610 : decode cL_law 610 = .ok (.iadd, 1) := by decide +kernel
theorem dL_law_611 : decode cL_law 611 = .ok (.iaload, 1) := by decide +kernel
theorem dL_law_612 : decode cL_law 612 = .ok (.invokevirtual 90, 3) := by decide +kernel
theorem dL_law_615 : decode cL_law 615 = .ok (.if_icmp .eq 61, 3) := by decide +kernel
theorem dL_law_618 : decode cL_law 618 = .ok (.iconst 0, 1) := by decide +kernel
theorem dL_law_619 : decode cL_law 619 = .ok (.ireturn, 1) := by decide +kernel
theorem dL_law_620 : decode cL_law 620 = .ok (.aload_n 1, 1) := by decide +kernel
theorem dL_law_621 : decode cL_law 621 = .ok (.aload_n 0, 1) := by decide +kernel
theorem dL_law_622 : decode cL_law 622 = .ok (.iload_n 3, 1) := by decide +kernel
theorem dL_law_623 : decode cL_law 623 = .ok (.iconst 1, 1) := by decide +kernel
theorem dL_law_624 : decode cL_law 624 = .ok (.iadd, 1) := by decide +kernel
theorem dL_law_625 : decode cL_law 625 = .ok (.iaload, 1) := by decide +kernel
theorem dL_law_626 : decode cL_law 626 = .ok (.aload_n 0, 1) := by decide +kernel
theorem dL_law_627 : decode cL_law 627 = .ok (.iload_n 3, 1) := by decide +kernel
theorem dL_law_628 : decode cL_law 628 = .ok (.iconst 2, 1) := by decide +kernel
theorem dL_law_629 : decode cL_law 629 = .ok (.iadd, 1) := by decide +kernel
theorem dL_law_630 : decode cL_law 630 = .ok (.iaload, 1) := by decide +kernel
theorem dL_law_631 : decode cL_law 631 = .ok (.invokevirtual 91, 3) := by decide +kernel
theorem dL_law_634 : decode cL_law 634 = .ok (.aload_n 2, 1) := by decide +kernel
theorem dL_law_635 : decode cL_law 635 = .ok (.aload_n 0, 1) := by decide +kernel
theorem dL_law_636 : decode cL_law 636 = .ok (.iload_n 3, 1) := by decide +kernel
theorem dL_law_637 : decode cL_law 637 = .ok (.iconst 1, 1) := by decide +kernel
theorem dL_law_638 : decode cL_law 638 = .ok (.iadd, 1) := by decide +kernel
theorem dL_law_639 : decode cL_law 639 = .ok (.iaload, 1) := by decide +kernel
theorem dL_law_640 : decode cL_law 640 = .ok (.aload_n 0, 1) := by decide +kernel
theorem dL_law_641 : decode cL_law 641 = .ok (.iload_n 3, 1) := by decide +kernel
theorem dL_law_642 : decode cL_law 642 = .ok (.iconst 2, 1) := by decide +kernel
theorem dL_law_643 : decode cL_law 643 = .ok (.iadd, 1) := by decide +kernel
theorem dL_law_644 : decode cL_law 644 = .ok (.iaload, 1) := by decide +kernel
theorem dL_law_645 : decode cL_law 645 = .ok (.invokevirtual 94, 3) := by decide +kernel
theorem dL_law_648 : decode cL_law 648 = .ok (.if_icmp .eq 28, 3) := by decide +kernel
theorem dL_law_651 : decode cL_law 651 = .ok (.iconst 0, 1) := by decide +kernel
theorem dL_law_652 : decode cL_law 652 = .ok (.ireturn, 1) := by decide +kernel
theorem dL_law_653 : decode cL_law 653 = .ok (.aload_n 1, 1) := by decide +kernel
theorem dL_law_654 : decode cL_law 654 = .ok (.aload_n 0, 1) := by decide +kernel
theorem dL_law_655 : decode cL_law 655 = .ok (.iload_n 3, 1) := by decide +kernel
theorem dL_law_656 : decode cL_law 656 = .ok (.iconst 1, 1) := by decide +kernel
theorem dL_law_657 : decode cL_law 657 = .ok (.iadd, 1) := by decide +kernel
theorem dL_law_658 : decode cL_law 658 = .ok (.iaload, 1) := by decide +kernel
theorem dL_law_659 : decode cL_law 659 = .ok (.invokevirtual 95, 3) := by decide +kernel
theorem dL_law_662 : decode cL_law 662 = .ok (.aload_n 2, 1) := by decide +kernel
theorem dL_law_663 : decode cL_law 663 = .ok (.aload_n 0, 1) := by decide +kernel
theorem dL_law_664 : decode cL_law 664 = .ok (.iload_n 3, 1) := by decide +kernel
theorem dL_law_665 : decode cL_law 665 = .ok (.iconst 1, 1) := by decide +kernel
theorem dL_law_666 : decode cL_law 666 = .ok (.iadd, 1) := by decide +kernel
theorem dL_law_667 : decode cL_law 667 = .ok (.iaload, 1) := by decide +kernel
theorem dL_law_668 : decode cL_law 668 = .ok (.invokevirtual 98, 3) := by decide +kernel
theorem dL_law_671 : decode cL_law 671 = .ok (.if_icmp .eq 5, 3) := by decide +kernel
theorem dL_law_674 : decode cL_law 674 = .ok (.iconst 0, 1) := by decide +kernel
theorem dL_law_675 : decode cL_law 675 = .ok (.ireturn, 1) := by decide +kernel
theorem dL_law_676 : decode cL_law 676 = .ok (.iinc 3 4, 3) := by decide +kernel
theorem dL_law_679 : decode cL_law 679 = .ok (.goto (-661), 3) := by decide +kernel
theorem dL_law_682 : decode cL_law 682 = .ok (.iconst 1, 1) := by decide +kernel
theorem dL_law_683 : decode cL_law 683 = .ok (.ireturn, 1) := by decide +kernel
