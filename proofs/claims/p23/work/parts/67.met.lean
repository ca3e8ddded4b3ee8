/-! EVERY METHOD KEEPS ITS PURE RUN: the contracts over the machine, by the depth of calls -/
theorem bb_cat1 {ad : Nat → Nat → Nat} : ∀ {as : List bb_V}, bb_nj as = true → ∀ v ∈ as, (bb_cv ad v).category = 1
  | [], _, v, hv => absurd hv List.not_mem_nil
  | .inl x :: t, h, v, hv => by
    rcases List.mem_cons.mp hv with rfl | h1
    · rfl
    · exact bb_cat1 (as := t) h v h1
  | .inr (.inl x) :: t, h, v, hv => by simp [bb_nj] at h
  | .inr (.inr (.inl (k, i))) :: t, h, v, hv => by
    rcases List.mem_cons.mp hv with rfl | h1
    · rfl
    · exact bb_cat1 (as := t) h v h1
  | .inr (.inr (.inr ())) :: t, h, v, hv => by
    rcases List.mem_cons.mp hv with rfl | h1
    · rfl
    · exact bb_cat1 (as := t) h v h1
theorem bb_sl_len {ad : Nat → Nat → Nat} : ∀ {as : List bb_V}, (∀ v ∈ as, (bb_cv ad v).category = 1) → (lg_sl (as.map (bb_cv ad))).length = as.length
  | [], _ => rfl
  | v :: t, h => by
    have h1 : ¬ (bb_cv ad v).category = 2 := by rw [h v List.mem_cons_self]; decide
    show (((fun v => if v.category = 2 then [Slot.val v, Slot.second] else [Slot.val v]) (bb_cv ad v)) ++ lg_sl (t.map (bb_cv ad))).length = _
    simp only [h1, if_false]
    rw [List.length_append, bb_sl_len (fun u hu => h u (List.mem_cons_of_mem _ hu))]
    simp [Nat.add_comm]
theorem bb_args_mem {ad : Nat → Nat → Nat} : ∀ {as : List bb_V} (i : Nat), (∀ v ∈ as, (bb_cv ad v).category = 1) → ∀ (j : Nat) (v : bb_V), as[j]? = some v → (i + j, bb_cv ad v) ∈ lv_args i (as.map (bb_cv ad))
  | [], i, _, j, v, hv => by simp at hv
  | u :: t, i, h, 0, v, hv => by
    simp only [List.getElem?_cons_zero, Option.some.injEq] at hv
    subst hv
    exact List.mem_cons_self
  | u :: t, i, h, j + 1, v, hv => by
    have h1 : ¬ (bb_cv ad u).category = 2 := by rw [h u List.mem_cons_self]; decide
    show (i + (j + 1), bb_cv ad v) ∈ (i, bb_cv ad u) :: lv_args (if (bb_cv ad u).category = 2 then i + 2 else i + 1) (t.map (bb_cv ad))
    rw [if_neg h1]
    have := bb_args_mem (ad := ad) (as := t) (i + 1) (fun z hz => h z (List.mem_cons_of_mem _ hz)) j v hv
    rw [show i + (j + 1) = i + 1 + j by omega]
    exact List.mem_cons_of_mem _ this
theorem bb_entry {ad : Nat → Nat → Nat} {n : Nat} {as : List bb_V} (hnj : bb_nj as = true) (hok : ∀ v ∈ as, bb_ok v) (hlen : as.length ≤ n) : bb_L n ad ((lg_sl (as.map (bb_cv ad)) ++ List.replicate (n - (lg_sl (as.map (bb_cv ad))).length) Slot.unset).toArray) (bb_lo n as) := by
  have hc := bb_cat1 (ad := ad) hnj
  have hl := bb_sl_len hc
  have he := lv_entry (as.map (bb_cv ad)) (n := n) (by rw [hl]; exact hlen)
  refine ⟨he.2.1, ⟨by rw [he.1]; simp [bb_lo]; omega, he.1⟩, fun i v hv => ?_⟩
  unfold bb_lo at hv
  rcases Nat.lt_or_ge i as.length with q | q
  · rw [List.getElem?_append_left q] at hv
    have hm := List.mem_of_getElem? hv
    have := bb_args_mem (ad := ad) 0 hc i v hv
    rw [Nat.zero_add] at this
    exact Or.inr ⟨he.2.2 _ this, hok v hm, hc v hm⟩
  · rw [List.getElem?_append_right q] at hv
    exact Or.inl (List.eq_of_mem_replicate (List.mem_of_getElem? hv))
def bb_SM (y : Nat) : Prop := plainName (bb_md y).1.cls = true ∧ bb_ml y = (bb_md y).2.2.1 ∧ ∀ {p : Program} {l : Launch} {e : Env} {R : Room} {s : State} {m : MethodId} {args : Array Value} {below : List Frame} {meth : Method} {c : Code} {D : va_G} {bs : Nat → Prop} {ad : Nat → Nat → Nat} {aI aC aS : ClassId} {Rp : bb_P} {C : bb_C}, bb_Cx p s m args c D bs ad aI aC aS (bb_md y).2.1 (bb_md y).1.cls (bb_ws y) → bb_CS l R D bs ad aI aC aS C → meth.sig.returnType = (bb_md y).2.2.2 → meth.locks = false → 1 ≤ R.frames → 36 ≤ R.locals → ∀ pc, bb_Snd p l e R s m args below meth c D bs ad aI aC aS Rp C pc (bb_pg y pc)
theorem sm_1 : bb_SM 1 := ⟨by decide +kernel, by decide +kernel, fun hx hcs hr hlk hRf hRl => sn_J6_bitCount hx hcs hr hlk hRf hRl⟩
theorem sm_2 : bb_SM 2 := ⟨by decide +kernel, by decide +kernel, fun hx hcs hr hlk hRf hRl => sn_X6_dump hx hcs hr hlk hRf hRl⟩
theorem sm_3 : bb_SM 3 := ⟨by decide +kernel, by decide +kernel, fun hx hcs hr hlk hRf hRl => sn_X6_setLevel hx hcs hr hlk hRf hRl⟩
theorem sm_4 : bb_SM 4 := ⟨by decide +kernel, by decide +kernel, fun hx hcs hr hlk hRf hRl => sn_X6_set hx hcs hr hlk hRf hRl⟩
theorem sm_5 : bb_SM 5 := ⟨by decide +kernel, by decide +kernel, fun hx hcs hr hlk hRf hRl => sn_X6_wave hx hcs hr hlk hRf hRl⟩
theorem sm_6 : bb_SM 6 := ⟨by decide +kernel, by decide +kernel, fun hx hcs hr hlk hRf hRl => sn_X6_strike hx hcs hr hlk hRf hRl⟩
theorem sm_7 : bb_SM 7 := ⟨by decide +kernel, by decide +kernel, fun hx hcs hr hlk hRf hRl => sn_X6_run hx hcs hr hlk hRf hRl⟩
theorem sm_8 : bb_SM 8 := ⟨by decide +kernel, by decide +kernel, fun hx hcs hr hlk hRf hRl => sn_X6_settle hx hcs hr hlk hRf hRl⟩
theorem sm_9 : bb_SM 9 := ⟨by decide +kernel, by decide +kernel, fun hx hcs hr hlk hRf hRl => sn_X6_undo hx hcs hr hlk hRf hRl⟩
theorem sm_10 : bb_SM 10 := ⟨by decide +kernel, by decide +kernel, fun hx hcs hr hlk hRf hRl => sn_X6_cell hx hcs hr hlk hRf hRl⟩
theorem sm_11 : bb_SM 11 := ⟨by decide +kernel, by decide +kernel, fun hx hcs hr hlk hRf hRl => sn_X6_row hx hcs hr hlk hRf hRl⟩
theorem sm_12 : bb_SM 12 := ⟨by decide +kernel, by decide +kernel, fun hx hcs hr hlk hRf hRl => sn_X6_waiting hx hcs hr hlk hRf hRl⟩
theorem sm_13 : bb_SM 13 := ⟨by decide +kernel, by decide +kernel, fun hx hcs hr hlk hRf hRl => sn_X6_ended hx hcs hr hlk hRf hRl⟩
theorem sm_14 : bb_SM 14 := ⟨by decide +kernel, by decide +kernel, fun hx hcs hr hlk hRf hRl => sn_X6_would hx hcs hr hlk hRf hRl⟩
theorem sm_15 : bb_SM 15 := ⟨by decide +kernel, by decide +kernel, fun hx hcs hr hlk hRf hRl => sn_X6_sand hx hcs hr hlk hRf hRl⟩
theorem sm_16 : bb_SM 16 := ⟨by decide +kernel, by decide +kernel, fun hx hcs hr hlk hRf hRl => sn_X6_count hx hcs hr hlk hRf hRl⟩
theorem sm_17 : bb_SM 17 := ⟨by decide +kernel, by decide +kernel, fun hx hcs hr hlk hRf hRl => sn_X6_isRow hx hcs hr hlk hRf hRl⟩
theorem sm_18 : bb_SM 18 := ⟨by decide +kernel, by decide +kernel, fun hx hcs hr hlk hRf hRl => sn_X6_isCell hx hcs hr hlk hRf hRl⟩
theorem sm_19 : bb_SM 19 := ⟨by decide +kernel, by decide +kernel, fun hx hcs hr hlk hRf hRl => sn_X6_isWaveHeight hx hcs hr hlk hRf hRl⟩
theorem sm_20 : bb_SM 20 := ⟨by decide +kernel, by decide +kernel, fun hx hcs hr hlk hRf hRl => sn_X6_firstHeight hx hcs hr hlk hRf hRl⟩
theorem sm_21 : bb_SM 21 := ⟨by decide +kernel, by decide +kernel, fun hx hcs hr hlk hRf hRl => sn_X6_goesSeaward hx hcs hr hlk hRf hRl⟩
theorem sm_22 : bb_SM 22 := ⟨by decide +kernel, by decide +kernel, fun hx hcs hr hlk hRf hRl => sn_X6_runWaves hx hcs hr hlk hRf hRl⟩
theorem sm_23 : bb_SM 23 := ⟨by decide +kernel, by decide +kernel, fun hx hcs hr hlk hRf hRl => sn_X6_sortWaves hx hcs hr hlk hRf hRl⟩
theorem sm_24 : bb_SM 24 := ⟨by decide +kernel, by decide +kernel, fun hx hcs hr hlk hRf hRl => sn_X6_runsEarlier hx hcs hr hlk hRf hRl⟩
theorem sm_25 : bb_SM 25 := ⟨by decide +kernel, by decide +kernel, fun hx hcs hr hlk hRf hRl => sn_X6_letSandFollow hx hcs hr hlk hRf hRl⟩
theorem sm_26 : bb_SM 26 := ⟨by decide +kernel, by decide +kernel, fun hx hcs hr hlk hRf hRl => sn_X0_size hx hcs hr hlk hRf hRl⟩
theorem sm_27 : bb_SM 27 := ⟨by decide +kernel, by decide +kernel, fun hx hcs hr hlk hRf hRl => sn_X0_record hx hcs hr hlk hRf hRl⟩
theorem sm_28 : bb_SM 28 := ⟨by decide +kernel, by decide +kernel, fun hx hcs hr hlk hRf hRl => sn_X0_takeBack hx hcs hr hlk hRf hRl⟩
theorem sm_29 : bb_SM 29 := ⟨by decide +kernel, by decide +kernel, fun hx hcs hr hlk hRf hRl => sn_X1_copyFrom hx hcs hr hlk hRf hRl⟩
theorem sm_30 : bb_SM 30 := ⟨by decide +kernel, by decide +kernel, fun hx hcs hr hlk hRf hRl => sn_X1_size hx hcs hr hlk hRf hRl⟩
theorem sm_31 : bb_SM 31 := ⟨by decide +kernel, by decide +kernel, fun hx hcs hr hlk hRf hRl => sn_X1_rowOf hx hcs hr hlk hRf hRl⟩
theorem sm_32 : bb_SM 32 := ⟨by decide +kernel, by decide +kernel, fun hx hcs hr hlk hRf hRl => sn_X1_heightOf hx hcs hr hlk hRf hRl⟩
theorem sm_33 : bb_SM 33 := ⟨by decide +kernel, by decide +kernel, fun hx hcs hr hlk hRf hRl => sn_X1_add hx hcs hr hlk hRf hRl⟩
theorem sm_34 : bb_SM 34 := ⟨by decide +kernel, by decide +kernel, fun hx hcs hr hlk hRf hRl => sn_X1_hasBetween hx hcs hr hlk hRf hRl⟩
theorem sm_35 : bb_SM 35 := ⟨by decide +kernel, by decide +kernel, fun hx hcs hr hlk hRf hRl => sn_X1_removeBetween hx hcs hr hlk hRf hRl⟩
theorem sm_36 : bb_SM 36 := ⟨by decide +kernel, by decide +kernel, fun hx hcs hr hlk hRf hRl => sn_X1_removeAll hx hcs hr hlk hRf hRl⟩
theorem sm_37 : bb_SM 37 := ⟨by decide +kernel, by decide +kernel, fun hx hcs hr hlk hRf hRl => sn_X2_fact hx hcs hr hlk hRf hRl⟩
theorem sm_38 : bb_SM 38 := ⟨by decide +kernel, by decide +kernel, fun hx hcs hr hlk hRf hRl => sn_X2_go hx hcs hr hlk hRf hRl⟩
theorem sm_39 : bb_SM 39 := ⟨by decide +kernel, by decide +kernel, fun hx hcs hr hlk hRf hRl => sn_X2_begin hx hcs hr hlk hRf hRl⟩
theorem sm_40 : bb_SM 40 := ⟨by decide +kernel, by decide +kernel, fun hx hcs hr hlk hRf hRl => sn_X2_end hx hcs hr hlk hRf hRl⟩
theorem sm_41 : bb_SM 41 := ⟨by decide +kernel, by decide +kernel, fun hx hcs hr hlk hRf hRl => sn_X2_breakAt hx hcs hr hlk hRf hRl⟩
theorem sm_42 : bb_SM 42 := ⟨by decide +kernel, by decide +kernel, fun hx hcs hr hlk hRf hRl => sn_X2_give hx hcs hr hlk hRf hRl⟩
theorem sm_43 : bb_SM 43 := ⟨by decide +kernel, by decide +kernel, fun hx hcs hr hlk hRf hRl => sn_X3_copyFrom hx hcs hr hlk hRf hRl⟩
theorem sm_44 : bb_SM 44 := ⟨by decide +kernel, by decide +kernel, fun hx hcs hr hlk hRf hRl => sn_X3_heightAt hx hcs hr hlk hRf hRl⟩
theorem sm_45 : bb_SM 45 := ⟨by decide +kernel, by decide +kernel, fun hx hcs hr hlk hRf hRl => sn_X3_setHeight hx hcs hr hlk hRf hRl⟩
theorem sm_46 : bb_SM 46 := ⟨by decide +kernel, by decide +kernel, fun hx hcs hr hlk hRf hRl => sn_X3_addTo hx hcs hr hlk hRf hRl⟩
theorem sm_47 : bb_SM 47 := ⟨by decide +kernel, by decide +kernel, fun hx hcs hr hlk hRf hRl => sn_X3_between hx hcs hr hlk hRf hRl⟩
theorem sm_48 : bb_SM 48 := ⟨by decide +kernel, by decide +kernel, fun hx hcs hr hlk hRf hRl => sn_X3_all hx hcs hr hlk hRf hRl⟩
theorem sm_49 : bb_SM 49 := ⟨by decide +kernel, by decide +kernel, fun hx hcs hr hlk hRf hRl => sn_X3_inRow hx hcs hr hlk hRf hRl⟩
theorem sm_50 : bb_SM 50 := ⟨by decide +kernel, by decide +kernel, fun hx hcs hr hlk hRf hRl => sn_X3_isDry hx hcs hr hlk hRf hRl⟩
theorem sm_51 : bb_SM 51 := ⟨by decide +kernel, by decide +kernel, fun hx hcs hr hlk hRf hRl => sn_X3_isBar hx hcs hr hlk hRf hRl⟩
theorem sm_52 : bb_SM 52 := ⟨by decide +kernel, by decide +kernel, fun hx hcs hr hlk hRf hRl => sn_X3_isGap hx hcs hr hlk hRf hRl⟩
theorem sm_53 : bb_SM 53 := ⟨by decide +kernel, by decide +kernel, fun hx hcs hr hlk hRf hRl => sn_X3_isBarFrom hx hcs hr hlk hRf hRl⟩
theorem sm_54 : bb_SM 54 := ⟨by decide +kernel, by decide +kernel, fun hx hcs hr hlk hRf hRl => sn_X3_bars hx hcs hr hlk hRf hRl⟩
theorem sm_55 : bb_SM 55 := ⟨by decide +kernel, by decide +kernel, fun hx hcs hr hlk hRf hRl => sn_X3_gaps hx hcs hr hlk hRf hRl⟩
theorem sm_56 : bb_SM 56 := ⟨by decide +kernel, by decide +kernel, fun hx hcs hr hlk hRf hRl => sn_X3_allBars hx hcs hr hlk hRf hRl⟩
theorem sm_57 : bb_SM 57 := ⟨by decide +kernel, by decide +kernel, fun hx hcs hr hlk hRf hRl => sn_X3_allGaps hx hcs hr hlk hRf hRl⟩
theorem sm_58 : bb_SM 58 := ⟨by decide +kernel, by decide +kernel, fun hx hcs hr hlk hRf hRl => sn_X3_allDry hx hcs hr hlk hRf hRl⟩
theorem sm_59 : bb_SM 59 := ⟨by decide +kernel, by decide +kernel, fun hx hcs hr hlk hRf hRl => sn_X3_lastDry hx hcs hr hlk hRf hRl⟩
theorem sm_60 : bb_SM 60 := ⟨by decide +kernel, by decide +kernel, fun hx hcs hr hlk hRf hRl => sn_X3_greatestDifference hx hcs hr hlk hRf hRl⟩
theorem sm_61 : bb_SM 61 := ⟨by decide +kernel, by decide +kernel, fun hx hcs hr hlk hRf hRl => sn_X3_highestBar hx hcs hr hlk hRf hRl⟩
theorem sm_62 : bb_SM 62 := ⟨by decide +kernel, by decide +kernel, fun hx hcs hr hlk hRf hRl => sn_X3_scour hx hcs hr hlk hRf hRl⟩
theorem sm_63 : bb_SM 63 := ⟨by decide +kernel, by decide +kernel, fun hx hcs hr hlk hRf hRl => sn_X3_scourCell hx hcs hr hlk hRf hRl⟩
theorem sm_64 : bb_SM 64 := ⟨by decide +kernel, by decide +kernel, fun hx hcs hr hlk hRf hRl => sn_X3_slump hx hcs hr hlk hRf hRl⟩
theorem sm_65 : bb_SM 65 := ⟨by decide +kernel, by decide +kernel, fun hx hcs hr hlk hRf hRl => sn_X3_slumpRow hx hcs hr hlk hRf hRl⟩
theorem sm_66 : bb_SM 66 := ⟨by decide +kernel, by decide +kernel, fun hx hcs hr hlk hRf hRl => sn_X3_slumpRowOnce hx hcs hr hlk hRf hRl⟩
theorem sm_67 : bb_SM 67 := ⟨by decide +kernel, by decide +kernel, fun hx hcs hr hlk hRf hRl => sn_X4_copyFrom hx hcs hr hlk hRf hRl⟩
theorem sm_68 : bb_SM 68 := ⟨by decide +kernel, by decide +kernel, fun hx hcs hr hlk hRf hRl => sn_X4_takeOver hx hcs hr hlk hRf hRl⟩
theorem sm_69 : bb_SM 69 := ⟨by decide +kernel, by decide +kernel, fun hx hcs hr hlk hRf hRl => sn_X5_length hx hcs hr hlk hRf hRl⟩
theorem sm_a0 : ∀ y, y < 1 → (y ≠ 0 → bb_SM y) := fun y h z => absurd (Nat.lt_one_iff.mp h) z
theorem sm_a1 : ∀ y, y < 11 → (y ≠ 0 → bb_SM y) := (lt_s (lt_s (lt_s (lt_s (lt_s (lt_s (lt_s (lt_s (lt_s (lt_s sm_a0 (fun _ => sm_1)) (fun _ => sm_2)) (fun _ => sm_3)) (fun _ => sm_4)) (fun _ => sm_5)) (fun _ => sm_6)) (fun _ => sm_7)) (fun _ => sm_8)) (fun _ => sm_9)) (fun _ => sm_10))
theorem sm_a2 : ∀ y, y < 21 → (y ≠ 0 → bb_SM y) := (lt_s (lt_s (lt_s (lt_s (lt_s (lt_s (lt_s (lt_s (lt_s (lt_s sm_a1 (fun _ => sm_11)) (fun _ => sm_12)) (fun _ => sm_13)) (fun _ => sm_14)) (fun _ => sm_15)) (fun _ => sm_16)) (fun _ => sm_17)) (fun _ => sm_18)) (fun _ => sm_19)) (fun _ => sm_20))
theorem sm_a3 : ∀ y, y < 31 → (y ≠ 0 → bb_SM y) := (lt_s (lt_s (lt_s (lt_s (lt_s (lt_s (lt_s (lt_s (lt_s (lt_s sm_a2 (fun _ => sm_21)) (fun _ => sm_22)) (fun _ => sm_23)) (fun _ => sm_24)) (fun _ => sm_25)) (fun _ => sm_26)) (fun _ => sm_27)) (fun _ => sm_28)) (fun _ => sm_29)) (fun _ => sm_30))
theorem sm_a4 : ∀ y, y < 41 → (y ≠ 0 → bb_SM y) := (lt_s (lt_s (lt_s (lt_s (lt_s (lt_s (lt_s (lt_s (lt_s (lt_s sm_a3 (fun _ => sm_31)) (fun _ => sm_32)) (fun _ => sm_33)) (fun _ => sm_34)) (fun _ => sm_35)) (fun _ => sm_36)) (fun _ => sm_37)) (fun _ => sm_38)) (fun _ => sm_39)) (fun _ => sm_40))
theorem sm_a5 : ∀ y, y < 51 → (y ≠ 0 → bb_SM y) := (lt_s (lt_s (lt_s (lt_s (lt_s (lt_s (lt_s (lt_s (lt_s (lt_s sm_a4 (fun _ => sm_41)) (fun _ => sm_42)) (fun _ => sm_43)) (fun _ => sm_44)) (fun _ => sm_45)) (fun _ => sm_46)) (fun _ => sm_47)) (fun _ => sm_48)) (fun _ => sm_49)) (fun _ => sm_50))
theorem sm_a6 : ∀ y, y < 61 → (y ≠ 0 → bb_SM y) := (lt_s (lt_s (lt_s (lt_s (lt_s (lt_s (lt_s (lt_s (lt_s (lt_s sm_a5 (fun _ => sm_51)) (fun _ => sm_52)) (fun _ => sm_53)) (fun _ => sm_54)) (fun _ => sm_55)) (fun _ => sm_56)) (fun _ => sm_57)) (fun _ => sm_58)) (fun _ => sm_59)) (fun _ => sm_60))
theorem sm_a7 : ∀ y, y < 70 → (y ≠ 0 → bb_SM y) := (lt_s (lt_s (lt_s (lt_s (lt_s (lt_s (lt_s (lt_s (lt_s sm_a6 (fun _ => sm_61)) (fun _ => sm_62)) (fun _ => sm_63)) (fun _ => sm_64)) (fun _ => sm_65)) (fun _ => sm_66)) (fun _ => sm_67)) (fun _ => sm_68)) (fun _ => sm_69))
theorem bb_SM_all : ∀ y, y < 70 → (y ≠ 0 → bb_SM y) := sm_a7
theorem bb_pgs_len : bb_pgs.length = 70 := by decide +kernel
theorem bb_pg_out {y : Nat} (h : 70 ≤ y) : bb_pg y = fun _ => bo_fail := by
  unfold bb_pg
  rw [List.getD_eq_getElem?_getD, List.getElem?_eq_none (by rw [bb_pgs_len]; exact h)]
  rfl
theorem bb_met (l : Launch) {D : va_G} {bs : Nat → Prop} {ad : Nat → Nat → Nat} {aI aC aS : ClassId} (hAd : bb_Ad bs ad) : ∀ (d : Nat) (y : Nat) (as : List bb_V) (M : bb_M) (r : Option bb_V) (M' : bb_M), bb_CL d y as M r M' → (∀ v ∈ as, bb_ok v) → (y ≠ 0 → bb_nj as = true ∧ as.length ≤ (bb_md y).2.2.1) → Met l (bb_md y).1 (bb_ws y) (bb_rm d) (va_Pc (as.map (bb_cv ad)) (bb_In D ad aI aC aS bs M)) (bb_Q D ad aI aC aS bs (fun r' M2 => r' = r ∧ M2 = M')) 0 0 (bb_A bs) := by
  intro d
  induction d with
  | zero => exact fun y as M r M' h => h.elim
  | succ d ih =>
    intro y as M r M' h hok hn
    have hcs : bb_CS l (bb_rm (d + 1)) D bs ad aI aC aS (bb_CL d) := fun y as M r M' h h1 h2 => ⟨bb_rm d, ⟨rfl, rfl⟩, ⟨Nat.le_refl _, by show 36 * d + 36 ≤ 36 * (d + 1); omega⟩, ih y as M r M' h h1 h2⟩
    have h0 : (if y = 0 then bb_inS as M r M' else bb_Y (bb_CL d) (bb_pg y) (fun r' M2 => r' = r ∧ M2 = M') 0 (bb_lo (bb_ml y) as) [] M) := h
    by_cases hy : y = 0
    · subst hy
      rw [if_pos rfl] at h0
      exact h0.elim
    · rw [if_neg hy] at h0
      by_cases hy2 : y < 70
      · obtain ⟨s1, s2, s3⟩ := bb_SM_all y hy2 hy
        obtain ⟨hnj, hlen⟩ := hn hy
        refine Met.ofW (cc := (bb_md y).2.1) (maxL := (bb_md y).2.2.1) (ret := (bb_md y).2.2.2) s1 rfl ?_
        intro p e s m args below meth c s₁ B hml hv
        obtain ⟨rfl, hW, hK, hst⟩ := hv
        have hts := atoms_spec (ws := bb_ws y) B.pre
        have hown : s.vm.findClass (bb_md y).1.cls = some m.cls := findClass_of_methodNamed B.named
        have hx : bb_Cx p s m (as.map (bb_cv ad)).toArray c D bs ad aI aC aS (bb_md y).2.1 (bb_md y).1.cls (bb_ws y) := ⟨B.exec, B.bytes, hown, hts, hK, hAd, hst⟩
        have hG := h0 (bb_G p l e (bb_rm (d + 1)) s m (as.map (bb_cv ad)).toArray below meth c D bs ad aI aC aS (fun r' M2 => r' = r ∧ M2 = M')) (fun pc ls st M2 h2 => s3 hx hcs B.returns B.notSynchronized (Nat.succ_le_succ (Nat.zero_le d)) (by show 36 ≤ 36 * (d + 1); omega) pc ls st M2 h2)
        rw [lg_entry_eq]
        have hL := bb_entry (ad := ad) (n := (bb_md y).2.2.1) hnj hok hlen
        rw [s2] at hG
        refine hG (fun v hv => absurd hv List.not_mem_nil) s.heap [] _ ?_ hW va_S.rf
        rw [hml]
        exact hL
      · rw [bb_pg_out (Nat.not_lt.mp hy2)] at h0
        exact (h0 (fun _ _ _ _ => False) (fun _ _ _ _ q => q)).elim
