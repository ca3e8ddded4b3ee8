/-! THE CLAIM OUT OF ONE WALK OF THE LAW'S BODY. Your part is whole_start (and what it stands on); all else here is the same for every law, but numbers. -/
def R_law : String := "BeachBarsLaw"
def lw_P (b : Addr) (xs : List Int32) (args : Array Value) (s : State) : Prop := args = #[.ref b] ∧ s.IntsAt b xs ∧ xs.length ≤ 2048 ∧ (Jvm.Cond.and given_1 narrow_1).before args s = true
def lw_Q (_ : Array Value) (s : State) (o : Outcome) (t : State) : Prop := o = .returned (some (.int 1)) ∧ Framed s o t [] 600000 7302250
def lw_Z (below : List Frame) (a : Array Value) (s : State) : State → Prop := fun t => ∃ o, t.status = .running ∧ Ended t below o ∧ lw_Q a s o t
/-- the law's own end, with 1 on the stack, nothing written that was there before, its room as the claim has it -/
theorem lw_ret {p : Program} {l : Launch} {e : Env} {s : State} {m : MethodId} {below : List Frame} {meth : Method} {c : Code} {b : Nat} (hx : p.tables.exec = Jvm.exec) (hb : c.code = code) (hr : meth.sig.returnType = ret) (hlocks : meth.locks = false) {pc : Nat} {H : Heap} {ls : Array Slot} (hdg : decode code pc = .ok (.ireturn, 1)) : W p l e room_1 s m #[Value.ref b] below meth c H [] 600000 7302250 (lw_Z below #[Value.ref b] s) (F0 m pc ls [.int 1]) := by
  intro T hT X
  obtain ⟨fs, hret, hrun, hended, hW, hframe⟩ := X.leave (v := some (.int 1)) (hlocks := hlocks) (fun h => by rw [hr] at h; cases h)
  have hmeth' : T.vm.method? m = some meth := X.method'
  refine ⟨T.setFrames fs, ?_, .returned (some (.int 1)), hrun, hended, rfl, ⟨_, rfl⟩, hW, hframe⟩
  jvm_step X.here [X.here.top, hx, hb, hdg, hmeth', hr, ret, narrow_b1]
  (try refine ⟨rfl, ?_⟩); (try refine ⟨rfl, ?_⟩)
  first | (intro acts; rw [hret _ acts rfl rfl rfl]) | rw [hret _ _ rfl rfl rfl]
  exact Steps.refl _
/-- what holds at the law's entry: the machine, the code, the tables' words (any of lw_tbl by 'hts w (by decide +kernel)'), the script of L ints xs at the cell b, what the Statement gives of the start (any of its parts by flat_of_before) -/
def lw_At (p : Program) (s : State) (m : MethodId) (meth : Method) (c : Code) (b L : Nat) (xs : Nat → Int32) : Prop :=
  p.tables.exec = Jvm.exec ∧ c.code = code ∧ meth.sig.returnType = ret ∧ c.maxLocals = 4 ∧ s.vm.findClass R_law = some m.cls ∧ (∀ w ∈ lw_tbl, w.before #[Value.ref b] s = true) ∧ va_X b L xs s s.heap ∧ b < s.heap.size ∧ meth.locks = false ∧ (Jvm.Cond.and given_1 narrow_1).before #[Value.ref b] s = true
/-! THE LAW: its calls -/
def bz_E (p : Program) (s : State) (m : MethodId) (c : Code) (D : va_G) (ad : Nat → Nat → Nat) (aI aC aS : ClassId) (b L : Nat) (xs : Nat → Int32) : Prop := p.tables.exec = Jvm.exec ∧ c.code = code ∧ c.maxLocals = 4 ∧ s.vm.findClass "BeachBarsLaw" = some m.cls ∧ (∀ w ∈ lw_tbl, w.before #[Value.ref b] s = true) ∧ (va_X b L xs s s.heap ∧ b < s.heap.size) ∧ va_K D bb_cls (bb_tys aI aC aS) s ∧ bb_sta D ad aI s.heap.size s ∧ bb_Ad s.heap.size ad
theorem bz_TB : ∀ w ∈ bb_TB, w ∈ lw_tbl := fun _ h => (List.mem_filter.mp h).1
theorem bz_CS (l : Launch) {D : va_G} {bs : Nat} {ad : Nat → Nat → Nat} {aI aC aS : ClassId} (hAd : bb_Ad bs ad) : bb_CS l room_1 D bs ad aI aC aS (bb_CL 10) := fun y as M r M' h h1 h2 => ⟨bb_rm 10, ⟨rfl, rfl⟩, ⟨Nat.le_of_ble_eq_true rfl, Nat.le_of_ble_eq_true rfl⟩, bb_met l hAd 10 y as M r M' h h1 h2⟩
theorem bz_char (x : Int32) : vp_nar .char ((x.toUInt32 % 65536).toInt32) = (x.toUInt32 % 65536).toInt32 := by
  show ((((x.toUInt32 % 65536).toInt32).toUInt32 % 65536).toInt32) = _
  rw [UInt32.toUInt32_toInt32]
  exact congrArg UInt32.toInt32 (by rw [← UInt32.toNat_inj, UInt32.toNat_mod, UInt32.toNat_mod, Nat.mod_mod])
section LZ
variable {p : Program} {l : Launch} {e : Env} {s : State} {m : MethodId} {below : List Frame} {meth : Method} {c : Code} {D : va_G} {ad : Nat → Nat → Nat} {aI aC aS : ClassId} {b L i : Nat} {xs : Nat → Int32} {H : Heap} {locs : List Loc} {ls : Array Slot} {M : bb_M} {cells slots : Nat}
def bz_lv (ad : Nat → Nat → Nat) (b i : Nat) : List (Nat × Value) := [(3, .int (nI i)), (2, .ref (ad 7 0)), (1, .ref (ad 6 0)), (0, .ref b)]
abbrev bz_Kt (p : Program) (l : Launch) (e : Env) (s : State) (m : MethodId) (below : List Frame) (meth : Method) (c : Code) (D : va_G) (ad : Nat → Nat → Nat) (aI aC aS : ClassId) (b cells slots : Nat) (ls : Array Slot) : Prop := ∀ (H : Heap) (locs : List Loc) (M : bb_M), bb_W D ad aI aC aS M H → bb_JJ M → va_S (bb_A s.heap.size) s.heap H locs → W p l e room_1 s m #[Value.ref b] below meth c H locs cells slots (lw_Z below #[Value.ref b] s) (F0 m 676 ls [])
set_option maxHeartbeats 4000000 in
set_option maxRecDepth 100000 in
theorem bz_0 (C : bz_E p s m c D ad aI aC aS b L xs) (hL : L ≤ 2048) (hi : i + 4 ≤ L) (hl : lv_has ls 4 (bz_lv ad b i)) (hc : cells ≤ room_1.cells) (hs : slots ≤ room_1.slots) (hW : bb_W D ad aI aC aS M H) (hJ : bb_JJ M) (hS : va_S (bb_A s.heap.size) s.heap H locs) (kk : bz_Kt p l e s m below meth c D ad aI aC aS b cells slots ls) : W p l e room_1 s m #[Value.ref b] below meth c H locs cells slots (lw_Z below #[Value.ref b] s) (F0 m 128 ls []) := by
  obtain ⟨hx, hb, hml, hown, hts, ⟨hX, hbl⟩, hK, hst, hAd⟩ := C
  have hbA : ¬ bb_A s.heap.size b := Nat.not_le.mpr hbl
  have hla : ls.size = c.maxLocals := hl.1.trans hml.symm
  have h1 : vp_in (nI i + 1) L := by rw [show (1 : Int32) = nI 1 from rfl, nI_add]; exact vp_in_nI (by omega) (by omega)
  have h2 : vp_in (nI i + 2) L := by rw [show (2 : Int32) = nI 2 from rfl, nI_add]; exact vp_in_nI (by omega) (by omega)
  have h3 : vp_in (nI i + 3) L := by rw [show (3 : Int32) = nI 3 from rfl, nI_add]; exact vp_in_nI (by omega) (by omega)
  obtain ⟨v, M1, M2, e1, e2, hJ2⟩ := b_dump (x := xs (nI i + 1).toNatClampNeg) (y := xs (nI i + 2).toNatClampNeg) (z := xs (nI i + 3).toNatClampNeg) hJ
  refine lv_aload_n hx hb dL_law_128 rfl (lv_at hl 2 rfl) ?_
  refine lv_aload_n hx hb dL_law_129 rfl (lv_at hl 3 rfl) ?_
  refine lv_iload_n hx hb dL_law_130 rfl (lv_at hl 0 rfl) ?_
  refine lv_iconst (v := 1) hx hb dL_law_131 (by decide) ?_
  refine lv_iadd hx hb dL_law_132 ?_
  refine va_sld hx hb hX hbl hbA hS h1 dL_law_133 ?_
  refine lv_aload_n hx hb dL_law_134 rfl (lv_at hl 3 rfl) ?_
  refine lv_iload_n hx hb dL_law_135 rfl (lv_at hl 0 rfl) ?_
  refine lv_iconst (v := 2) hx hb dL_law_136 (by decide) ?_
  refine lv_iadd hx hb dL_law_137 ?_
  refine va_sld hx hb hX hbl hbA hS h2 dL_law_138 ?_
  refine lv_aload_n hx hb dL_law_139 rfl (lv_at hl 3 rfl) ?_
  refine lv_iload_n hx hb dL_law_140 rfl (lv_at hl 0 rfl) ?_
  refine lv_iconst (v := 3) hx hb dL_law_141 (by decide) ?_
  refine lv_iadd hx hb dL_law_142 ?_
  refine va_sld hx hb hX hbl hbA hS h3 dL_law_143 ?_
  refine W.eq (g2 := F0 m 144 ls ((([bb_I (xs (nI i + 1).toNatClampNeg), bb_I (xs (nI i + 2).toNatClampNeg), bb_I (xs (nI i + 3).toNatClampNeg)] : List bb_V).map (bb_cv ad)).reverse ++ .ref (ad 6 0) :: [])) rfl ?_
  refine bb_virt (own := "BeachBarsLaw") (Ts := lw_tbl) (y := 2) (k := 6) (i := 0) (as := [bb_I (xs (nI i + 1).toNatClampNeg), bb_I (xs (nI i + 2).toNatClampNeg), bb_I (xs (nI i + 3).toNatClampNeg)]) (st := []) (M := M) (M' := M1) (r := some (bb_I v)) hx hb hown hts hK hst (bz_CS l hAd) bz_TB hc hs dL_law_144 (List.mem_of_getElem? (i := 242) (by decide +kernel)) mV_2 rfl (Nat.le_of_ble_eq_true rfl) rfl (List.forall_mem_cons.mpr ⟨trivial, List.forall_mem_cons.mpr ⟨trivial, List.forall_mem_cons.mpr ⟨trivial, fun _ h => absurd h List.not_mem_nil⟩⟩⟩) (by decide) e1 hla hW hS (fun H locs _ hW hS => ?_)
  refine W.eq (g2 := F0 m 147 ls [.int v]) rfl ?_
  refine lv_aload_n hx hb dL_law_147 rfl (lv_at hl 1 rfl) ?_
  refine lv_aload_n hx hb dL_law_148 rfl (lv_at hl 3 rfl) ?_
  refine lv_iload_n hx hb dL_law_149 rfl (lv_at hl 0 rfl) ?_
  refine lv_iconst (v := 1) hx hb dL_law_150 (by decide) ?_
  refine lv_iadd hx hb dL_law_151 ?_
  refine va_sld hx hb hX hbl hbA hS h1 dL_law_152 ?_
  refine lv_aload_n hx hb dL_law_153 rfl (lv_at hl 3 rfl) ?_
  refine lv_iload_n hx hb dL_law_154 rfl (lv_at hl 0 rfl) ?_
  refine lv_iconst (v := 2) hx hb dL_law_155 (by decide) ?_
  refine lv_iadd hx hb dL_law_156 ?_
  refine va_sld hx hb hX hbl hbA hS h2 dL_law_157 ?_
  refine lv_aload_n hx hb dL_law_158 rfl (lv_at hl 3 rfl) ?_
  refine lv_iload_n hx hb dL_law_159 rfl (lv_at hl 0 rfl) ?_
  refine lv_iconst (v := 3) hx hb dL_law_160 (by decide) ?_
  refine lv_iadd hx hb dL_law_161 ?_
  refine va_sld hx hb hX hbl hbA hS h3 dL_law_162 ?_
  refine W.eq (g2 := F0 m 163 ls ((([bb_I (xs (nI i + 1).toNatClampNeg), bb_I (xs (nI i + 2).toNatClampNeg), bb_I (xs (nI i + 3).toNatClampNeg)] : List bb_V).map (bb_cv ad)).reverse ++ .ref (ad 7 0) :: [.int v])) rfl ?_
  refine bb_virt (own := "BeachBarsLaw") (Ts := lw_tbl) (y := 48) (k := 7) (i := 0) (as := [bb_I (xs (nI i + 1).toNatClampNeg), bb_I (xs (nI i + 2).toNatClampNeg), bb_I (xs (nI i + 3).toNatClampNeg)]) (st := [.int v]) (M := M1) (M' := M2) (r := some (bb_I v)) hx hb hown hts hK hst (bz_CS l hAd) bz_TB hc hs dL_law_163 (List.mem_of_getElem? (i := 673) (by decide +kernel)) mV_48 rfl (Nat.le_of_ble_eq_true rfl) rfl (List.forall_mem_cons.mpr ⟨trivial, List.forall_mem_cons.mpr ⟨trivial, List.forall_mem_cons.mpr ⟨trivial, fun _ h => absurd h List.not_mem_nil⟩⟩⟩) (by decide) e2 hla hW hS (fun H locs _ hW hS => ?_)
  refine W.eq (g2 := F0 m 166 ls [.int v, .int v]) rfl ?_
  refine lv_icmp_eq (tgt := 676) hx hb dL_law_166 (by decide) (fun _ => ?_) (fun z9 => absurd rfl z9)
  exact kk H locs M2 hW hJ2 hS
set_option maxHeartbeats 4000000 in
set_option maxRecDepth 100000 in
theorem bz_1 (C : bz_E p s m c D ad aI aC aS b L xs) (hL : L ≤ 2048) (hi : i + 4 ≤ L) (hl : lv_has ls 4 (bz_lv ad b i)) (hc : cells ≤ room_1.cells) (hs : slots ≤ room_1.slots) (hW : bb_W D ad aI aC aS M H) (hJ : bb_JJ M) (hS : va_S (bb_A s.heap.size) s.heap H locs) (kk : bz_Kt p l e s m below meth c D ad aI aC aS b cells slots ls) : W p l e room_1 s m #[Value.ref b] below meth c H locs cells slots (lw_Z below #[Value.ref b] s) (F0 m 171 ls []) := by
  obtain ⟨hx, hb, hml, hown, hts, ⟨hX, hbl⟩, hK, hst, hAd⟩ := C
  have hbA : ¬ bb_A s.heap.size b := Nat.not_le.mpr hbl
  have hla : ls.size = c.maxLocals := hl.1.trans hml.symm
  have h1 : vp_in (nI i + 1) L := by rw [show (1 : Int32) = nI 1 from rfl, nI_add]; exact vp_in_nI (by omega) (by omega)
  obtain ⟨v, M1, M2, e1, e2, hJ2⟩ := b_setLevel (x := xs (nI i + 1).toNatClampNeg) hJ
  refine lv_aload_n hx hb dL_law_171 rfl (lv_at hl 2 rfl) ?_
  refine lv_aload_n hx hb dL_law_172 rfl (lv_at hl 3 rfl) ?_
  refine lv_iload_n hx hb dL_law_173 rfl (lv_at hl 0 rfl) ?_
  refine lv_iconst (v := 1) hx hb dL_law_174 (by decide) ?_
  refine lv_iadd hx hb dL_law_175 ?_
  refine va_sld hx hb hX hbl hbA hS h1 dL_law_176 ?_
  refine W.eq (g2 := F0 m 177 ls ((([bb_I (xs (nI i + 1).toNatClampNeg)] : List bb_V).map (bb_cv ad)).reverse ++ .ref (ad 6 0) :: [])) rfl ?_
  refine bb_virt (own := "BeachBarsLaw") (Ts := lw_tbl) (y := 3) (k := 6) (i := 0) (as := [bb_I (xs (nI i + 1).toNatClampNeg)]) (st := []) (M := M) (M' := M1) (r := some (bb_I v)) hx hb hown hts hK hst (bz_CS l hAd) bz_TB hc hs dL_law_177 (List.mem_of_getElem? (i := 281) (by decide +kernel)) mV_3 rfl (Nat.le_of_ble_eq_true rfl) rfl (List.forall_mem_cons.mpr ⟨trivial, fun _ h => absurd h List.not_mem_nil⟩) (by decide) e1 hla hW hS (fun H locs _ hW hS => ?_)
  refine W.eq (g2 := F0 m 180 ls [.int v]) rfl ?_
  refine lv_aload_n hx hb dL_law_180 rfl (lv_at hl 1 rfl) ?_
  refine lv_aload_n hx hb dL_law_181 rfl (lv_at hl 3 rfl) ?_
  refine lv_iload_n hx hb dL_law_182 rfl (lv_at hl 0 rfl) ?_
  refine lv_iconst (v := 1) hx hb dL_law_183 (by decide) ?_
  refine lv_iadd hx hb dL_law_184 ?_
  refine va_sld hx hb hX hbl hbA hS h1 dL_law_185 ?_
  refine W.eq (g2 := F0 m 186 ls ((([bb_I (xs (nI i + 1).toNatClampNeg)] : List bb_V).map (bb_cv ad)).reverse ++ .ref (ad 7 0) :: [.int v])) rfl ?_
  refine bb_virt (own := "BeachBarsLaw") (Ts := lw_tbl) (y := 50) (k := 7) (i := 0) (as := [bb_I (xs (nI i + 1).toNatClampNeg)]) (st := [.int v]) (M := M1) (M' := M2) (r := some (bb_I v)) hx hb hown hts hK hst (bz_CS l hAd) bz_TB hc hs dL_law_186 (List.mem_of_getElem? (i := 701) (by decide +kernel)) mV_50 rfl (Nat.le_of_ble_eq_true rfl) rfl (List.forall_mem_cons.mpr ⟨trivial, fun _ h => absurd h List.not_mem_nil⟩) (by decide) e2 hla hW hS (fun H locs _ hW hS => ?_)
  refine W.eq (g2 := F0 m 189 ls [.int v, .int v]) rfl ?_
  refine lv_icmp_eq (tgt := 676) hx hb dL_law_189 (by decide) (fun _ => ?_) (fun z9 => absurd rfl z9)
  exact kk H locs M2 hW hJ2 hS
set_option maxHeartbeats 4000000 in
set_option maxRecDepth 100000 in
theorem bz_2 (C : bz_E p s m c D ad aI aC aS b L xs) (hL : L ≤ 2048) (hi : i + 4 ≤ L) (hl : lv_has ls 4 (bz_lv ad b i)) (hc : cells ≤ room_1.cells) (hs : slots ≤ room_1.slots) (hW : bb_W D ad aI aC aS M H) (hJ : bb_JJ M) (hS : va_S (bb_A s.heap.size) s.heap H locs) (kk : bz_Kt p l e s m below meth c D ad aI aC aS b cells slots ls) : W p l e room_1 s m #[Value.ref b] below meth c H locs cells slots (lw_Z below #[Value.ref b] s) (F0 m 194 ls []) := by
  obtain ⟨hx, hb, hml, hown, hts, ⟨hX, hbl⟩, hK, hst, hAd⟩ := C
  have hbA : ¬ bb_A s.heap.size b := Nat.not_le.mpr hbl
  have hla : ls.size = c.maxLocals := hl.1.trans hml.symm
  have h1 : vp_in (nI i + 1) L := by rw [show (1 : Int32) = nI 1 from rfl, nI_add]; exact vp_in_nI (by omega) (by omega)
  have h2 : vp_in (nI i + 2) L := by rw [show (2 : Int32) = nI 2 from rfl, nI_add]; exact vp_in_nI (by omega) (by omega)
  obtain ⟨v, M1, M2, e1, e2, hJ2⟩ := b_set (x := xs (nI i + 1).toNatClampNeg) (y := xs (nI i + 2).toNatClampNeg) hJ
  refine lv_aload_n hx hb dL_law_194 rfl (lv_at hl 2 rfl) ?_
  refine lv_aload_n hx hb dL_law_195 rfl (lv_at hl 3 rfl) ?_
  refine lv_iload_n hx hb dL_law_196 rfl (lv_at hl 0 rfl) ?_
  refine lv_iconst (v := 1) hx hb dL_law_197 (by decide) ?_
  refine lv_iadd hx hb dL_law_198 ?_
  refine va_sld hx hb hX hbl hbA hS h1 dL_law_199 ?_
  refine lv_aload_n hx hb dL_law_200 rfl (lv_at hl 3 rfl) ?_
  refine lv_iload_n hx hb dL_law_201 rfl (lv_at hl 0 rfl) ?_
  refine lv_iconst (v := 2) hx hb dL_law_202 (by decide) ?_
  refine lv_iadd hx hb dL_law_203 ?_
  refine va_sld hx hb hX hbl hbA hS h2 dL_law_204 ?_
  refine W.eq (g2 := F0 m 205 ls ((([bb_I (xs (nI i + 1).toNatClampNeg), bb_I (xs (nI i + 2).toNatClampNeg)] : List bb_V).map (bb_cv ad)).reverse ++ .ref (ad 6 0) :: [])) rfl ?_
  refine bb_virt (own := "BeachBarsLaw") (Ts := lw_tbl) (y := 4) (k := 6) (i := 0) (as := [bb_I (xs (nI i + 1).toNatClampNeg), bb_I (xs (nI i + 2).toNatClampNeg)]) (st := []) (M := M) (M' := M1) (r := some (bb_I v)) hx hb hown hts hK hst (bz_CS l hAd) bz_TB hc hs dL_law_205 (List.mem_of_getElem? (i := 285) (by decide +kernel)) mV_4 rfl (Nat.le_of_ble_eq_true rfl) rfl (List.forall_mem_cons.mpr ⟨trivial, List.forall_mem_cons.mpr ⟨trivial, fun _ h => absurd h List.not_mem_nil⟩⟩) (by decide) e1 hla hW hS (fun H locs _ hW hS => ?_)
  refine W.eq (g2 := F0 m 208 ls [.int v]) rfl ?_
  refine lv_aload_n hx hb dL_law_208 rfl (lv_at hl 1 rfl) ?_
  refine lv_aload_n hx hb dL_law_209 rfl (lv_at hl 3 rfl) ?_
  refine lv_iload_n hx hb dL_law_210 rfl (lv_at hl 0 rfl) ?_
  refine lv_iconst (v := 1) hx hb dL_law_211 (by decide) ?_
  refine lv_iadd hx hb dL_law_212 ?_
  refine va_sld hx hb hX hbl hbA hS h1 dL_law_213 ?_
  refine lv_aload_n hx hb dL_law_214 rfl (lv_at hl 3 rfl) ?_
  refine lv_iload_n hx hb dL_law_215 rfl (lv_at hl 0 rfl) ?_
  refine lv_iconst (v := 2) hx hb dL_law_216 (by decide) ?_
  refine lv_iadd hx hb dL_law_217 ?_
  refine va_sld hx hb hX hbl hbA hS h2 dL_law_218 ?_
  refine W.eq (g2 := F0 m 219 ls ((([bb_I (xs (nI i + 1).toNatClampNeg), bb_I (xs (nI i + 2).toNatClampNeg)] : List bb_V).map (bb_cv ad)).reverse ++ .ref (ad 7 0) :: [.int v])) rfl ?_
  refine bb_virt (own := "BeachBarsLaw") (Ts := lw_tbl) (y := 52) (k := 7) (i := 0) (as := [bb_I (xs (nI i + 1).toNatClampNeg), bb_I (xs (nI i + 2).toNatClampNeg)]) (st := [.int v]) (M := M1) (M' := M2) (r := some (bb_I v)) hx hb hown hts hK hst (bz_CS l hAd) bz_TB hc hs dL_law_219 (List.mem_of_getElem? (i := 711) (by decide +kernel)) mV_52 rfl (Nat.le_of_ble_eq_true rfl) rfl (List.forall_mem_cons.mpr ⟨trivial, List.forall_mem_cons.mpr ⟨trivial, fun _ h => absurd h List.not_mem_nil⟩⟩) (by decide) e2 hla hW hS (fun H locs _ hW hS => ?_)
  refine W.eq (g2 := F0 m 222 ls [.int v, .int v]) rfl ?_
  refine lv_icmp_eq (tgt := 676) hx hb dL_law_222 (by decide) (fun _ => ?_) (fun z9 => absurd rfl z9)
  exact kk H locs M2 hW hJ2 hS
set_option maxHeartbeats 4000000 in
set_option maxRecDepth 100000 in
theorem bz_3 (C : bz_E p s m c D ad aI aC aS b L xs) (hL : L ≤ 2048) (hi : i + 4 ≤ L) (hl : lv_has ls 4 (bz_lv ad b i)) (hc : cells ≤ room_1.cells) (hs : slots ≤ room_1.slots) (hW : bb_W D ad aI aC aS M H) (hJ : bb_JJ M) (hS : va_S (bb_A s.heap.size) s.heap H locs) (kk : bz_Kt p l e s m below meth c D ad aI aC aS b cells slots ls) : W p l e room_1 s m #[Value.ref b] below meth c H locs cells slots (lw_Z below #[Value.ref b] s) (F0 m 227 ls []) := by
  obtain ⟨hx, hb, hml, hown, hts, ⟨hX, hbl⟩, hK, hst, hAd⟩ := C
  have hbA : ¬ bb_A s.heap.size b := Nat.not_le.mpr hbl
  have hla : ls.size = c.maxLocals := hl.1.trans hml.symm
  have h1 : vp_in (nI i + 1) L := by rw [show (1 : Int32) = nI 1 from rfl, nI_add]; exact vp_in_nI (by omega) (by omega)
  have h2 : vp_in (nI i + 2) L := by rw [show (2 : Int32) = nI 2 from rfl, nI_add]; exact vp_in_nI (by omega) (by omega)
  obtain ⟨v, M1, M2, e1, e2, hJ2⟩ := b_wave (x := xs (nI i + 1).toNatClampNeg) (y := xs (nI i + 2).toNatClampNeg) hJ
  refine lv_aload_n hx hb dL_law_227 rfl (lv_at hl 2 rfl) ?_
  refine lv_aload_n hx hb dL_law_228 rfl (lv_at hl 3 rfl) ?_
  refine lv_iload_n hx hb dL_law_229 rfl (lv_at hl 0 rfl) ?_
  refine lv_iconst (v := 1) hx hb dL_law_230 (by decide) ?_
  refine lv_iadd hx hb dL_law_231 ?_
  refine va_sld hx hb hX hbl hbA hS h1 dL_law_232 ?_
  refine lv_aload_n hx hb dL_law_233 rfl (lv_at hl 3 rfl) ?_
  refine lv_iload_n hx hb dL_law_234 rfl (lv_at hl 0 rfl) ?_
  refine lv_iconst (v := 2) hx hb dL_law_235 (by decide) ?_
  refine lv_iadd hx hb dL_law_236 ?_
  refine va_sld hx hb hX hbl hbA hS h2 dL_law_237 ?_
  refine W.eq (g2 := F0 m 238 ls ((([bb_I (xs (nI i + 1).toNatClampNeg), bb_I (xs (nI i + 2).toNatClampNeg)] : List bb_V).map (bb_cv ad)).reverse ++ .ref (ad 6 0) :: [])) rfl ?_
  refine bb_virt (own := "BeachBarsLaw") (Ts := lw_tbl) (y := 5) (k := 6) (i := 0) (as := [bb_I (xs (nI i + 1).toNatClampNeg), bb_I (xs (nI i + 2).toNatClampNeg)]) (st := []) (M := M) (M' := M1) (r := some (bb_I v)) hx hb hown hts hK hst (bz_CS l hAd) bz_TB hc hs dL_law_238 (List.mem_of_getElem? (i := 293) (by decide +kernel)) mV_5 rfl (Nat.le_of_ble_eq_true rfl) rfl (List.forall_mem_cons.mpr ⟨trivial, List.forall_mem_cons.mpr ⟨trivial, fun _ h => absurd h List.not_mem_nil⟩⟩) (by decide) e1 hla hW hS (fun H locs _ hW hS => ?_)
  refine W.eq (g2 := F0 m 241 ls [.int v]) rfl ?_
  refine lv_aload_n hx hb dL_law_241 rfl (lv_at hl 1 rfl) ?_
  refine lv_aload_n hx hb dL_law_242 rfl (lv_at hl 3 rfl) ?_
  refine lv_iload_n hx hb dL_law_243 rfl (lv_at hl 0 rfl) ?_
  refine lv_iconst (v := 1) hx hb dL_law_244 (by decide) ?_
  refine lv_iadd hx hb dL_law_245 ?_
  refine va_sld hx hb hX hbl hbA hS h1 dL_law_246 ?_
  refine lv_aload_n hx hb dL_law_247 rfl (lv_at hl 3 rfl) ?_
  refine lv_iload_n hx hb dL_law_248 rfl (lv_at hl 0 rfl) ?_
  refine lv_iconst (v := 2) hx hb dL_law_249 (by decide) ?_
  refine lv_iadd hx hb dL_law_250 ?_
  refine va_sld hx hb hX hbl hbA hS h2 dL_law_251 ?_
  refine W.eq (g2 := F0 m 252 ls ((([bb_I (xs (nI i + 1).toNatClampNeg), bb_I (xs (nI i + 2).toNatClampNeg)] : List bb_V).map (bb_cv ad)).reverse ++ .ref (ad 7 0) :: [.int v])) rfl ?_
  refine bb_virt (own := "BeachBarsLaw") (Ts := lw_tbl) (y := 55) (k := 7) (i := 0) (as := [bb_I (xs (nI i + 1).toNatClampNeg), bb_I (xs (nI i + 2).toNatClampNeg)]) (st := [.int v]) (M := M1) (M' := M2) (r := some (bb_I v)) hx hb hown hts hK hst (bz_CS l hAd) bz_TB hc hs dL_law_252 (List.mem_of_getElem? (i := 721) (by decide +kernel)) mV_55 rfl (Nat.le_of_ble_eq_true rfl) rfl (List.forall_mem_cons.mpr ⟨trivial, List.forall_mem_cons.mpr ⟨trivial, fun _ h => absurd h List.not_mem_nil⟩⟩) (by decide) e2 hla hW hS (fun H locs _ hW hS => ?_)
  refine W.eq (g2 := F0 m 255 ls [.int v, .int v]) rfl ?_
  refine lv_icmp_eq (tgt := 676) hx hb dL_law_255 (by decide) (fun _ => ?_) (fun z9 => absurd rfl z9)
  exact kk H locs M2 hW hJ2 hS
set_option maxHeartbeats 4000000 in
set_option maxRecDepth 100000 in
theorem bz_4 (C : bz_E p s m c D ad aI aC aS b L xs) (hL : L ≤ 2048) (hi : i + 4 ≤ L) (hl : lv_has ls 4 (bz_lv ad b i)) (hc : cells ≤ room_1.cells) (hs : slots ≤ room_1.slots) (hW : bb_W D ad aI aC aS M H) (hJ : bb_JJ M) (hS : va_S (bb_A s.heap.size) s.heap H locs) (kk : bz_Kt p l e s m below meth c D ad aI aC aS b cells slots ls) : W p l e room_1 s m #[Value.ref b] below meth c H locs cells slots (lw_Z below #[Value.ref b] s) (F0 m 260 ls []) := by
  obtain ⟨hx, hb, hml, hown, hts, ⟨hX, hbl⟩, hK, hst, hAd⟩ := C
  have hbA : ¬ bb_A s.heap.size b := Nat.not_le.mpr hbl
  have hla : ls.size = c.maxLocals := hl.1.trans hml.symm
  obtain ⟨v, M1, M2, e1, e2, hJ2⟩ := b_waveAll  hJ
  refine lv_aload_n hx hb dL_law_260 rfl (lv_at hl 2 rfl) ?_
  refine W.eq (g2 := F0 m 261 ls ((([] : List bb_V).map (bb_cv ad)).reverse ++ .ref (ad 6 0) :: [])) rfl ?_
  refine bb_virt (own := "BeachBarsLaw") (Ts := lw_tbl) (y := 6) (k := 6) (i := 0) (as := []) (st := []) (M := M) (M' := M1) (r := some (bb_I v)) hx hb hown hts hK hst (bz_CS l hAd) bz_TB hc hs dL_law_261 (List.mem_of_getElem? (i := 308) (by decide +kernel)) mV_6 rfl (Nat.le_of_ble_eq_true rfl) rfl (fun _ h => absurd h List.not_mem_nil) (by decide) e1 hla hW hS (fun H locs _ hW hS => ?_)
  refine W.eq (g2 := F0 m 264 ls [.int v]) rfl ?_
  refine lv_aload_n hx hb dL_law_264 rfl (lv_at hl 1 rfl) ?_
  refine W.eq (g2 := F0 m 265 ls ((([] : List bb_V).map (bb_cv ad)).reverse ++ .ref (ad 7 0) :: [.int v])) rfl ?_
  refine bb_virt (own := "BeachBarsLaw") (Ts := lw_tbl) (y := 66) (k := 7) (i := 0) (as := []) (st := [.int v]) (M := M1) (M' := M2) (r := some (bb_I v)) hx hb hown hts hK hst (bz_CS l hAd) bz_TB hc hs dL_law_265 (List.mem_of_getElem? (i := 801) (by decide +kernel)) mV_66 rfl (Nat.le_of_ble_eq_true rfl) rfl (fun _ h => absurd h List.not_mem_nil) (by decide) e2 hla hW hS (fun H locs _ hW hS => ?_)
  refine W.eq (g2 := F0 m 268 ls [.int v, .int v]) rfl ?_
  refine lv_icmp_eq (tgt := 676) hx hb dL_law_268 (by decide) (fun _ => ?_) (fun z9 => absurd rfl z9)
  exact kk H locs M2 hW hJ2 hS
set_option maxHeartbeats 4000000 in
set_option maxRecDepth 100000 in
theorem bz_5 (C : bz_E p s m c D ad aI aC aS b L xs) (hL : L ≤ 2048) (hi : i + 4 ≤ L) (hl : lv_has ls 4 (bz_lv ad b i)) (hc : cells ≤ room_1.cells) (hs : slots ≤ room_1.slots) (hW : bb_W D ad aI aC aS M H) (hJ : bb_JJ M) (hS : va_S (bb_A s.heap.size) s.heap H locs) (kk : bz_Kt p l e s m below meth c D ad aI aC aS b cells slots ls) : W p l e room_1 s m #[Value.ref b] below meth c H locs cells slots (lw_Z below #[Value.ref b] s) (F0 m 273 ls []) := by
  obtain ⟨hx, hb, hml, hown, hts, ⟨hX, hbl⟩, hK, hst, hAd⟩ := C
  have hbA : ¬ bb_A s.heap.size b := Nat.not_le.mpr hbl
  have hla : ls.size = c.maxLocals := hl.1.trans hml.symm
  have h1 : vp_in (nI i + 1) L := by rw [show (1 : Int32) = nI 1 from rfl, nI_add]; exact vp_in_nI (by omega) (by omega)
  have h2 : vp_in (nI i + 2) L := by rw [show (2 : Int32) = nI 2 from rfl, nI_add]; exact vp_in_nI (by omega) (by omega)
  obtain ⟨v, M1, M2, e1, e2, hJ2⟩ := b_strike (x := xs (nI i + 1).toNatClampNeg) (y := xs (nI i + 2).toNatClampNeg) hJ
  refine lv_aload_n hx hb dL_law_273 rfl (lv_at hl 2 rfl) ?_
  refine lv_aload_n hx hb dL_law_274 rfl (lv_at hl 3 rfl) ?_
  refine lv_iload_n hx hb dL_law_275 rfl (lv_at hl 0 rfl) ?_
  refine lv_iconst (v := 1) hx hb dL_law_276 (by decide) ?_
  refine lv_iadd hx hb dL_law_277 ?_
  refine va_sld hx hb hX hbl hbA hS h1 dL_law_278 ?_
  refine lv_aload_n hx hb dL_law_279 rfl (lv_at hl 3 rfl) ?_
  refine lv_iload_n hx hb dL_law_280 rfl (lv_at hl 0 rfl) ?_
  refine lv_iconst (v := 2) hx hb dL_law_281 (by decide) ?_
  refine lv_iadd hx hb dL_law_282 ?_
  refine va_sld hx hb hX hbl hbA hS h2 dL_law_283 ?_
  refine W.eq (g2 := F0 m 284 ls ((([bb_I (xs (nI i + 1).toNatClampNeg), bb_I (xs (nI i + 2).toNatClampNeg)] : List bb_V).map (bb_cv ad)).reverse ++ .ref (ad 6 0) :: [])) rfl ?_
  refine bb_virt (own := "BeachBarsLaw") (Ts := lw_tbl) (y := 7) (k := 6) (i := 0) (as := [bb_I (xs (nI i + 1).toNatClampNeg), bb_I (xs (nI i + 2).toNatClampNeg)]) (st := []) (M := M) (M' := M1) (r := some (bb_I v)) hx hb hown hts hK hst (bz_CS l hAd) bz_TB hc hs dL_law_284 (List.mem_of_getElem? (i := 362) (by decide +kernel)) mV_7 rfl (Nat.le_of_ble_eq_true rfl) rfl (List.forall_mem_cons.mpr ⟨trivial, List.forall_mem_cons.mpr ⟨trivial, fun _ h => absurd h List.not_mem_nil⟩⟩) (by decide) e1 hla hW hS (fun H locs _ hW hS => ?_)
  refine W.eq (g2 := F0 m 287 ls [.int v]) rfl ?_
  refine lv_aload_n hx hb dL_law_287 rfl (lv_at hl 1 rfl) ?_
  refine lv_aload_n hx hb dL_law_288 rfl (lv_at hl 3 rfl) ?_
  refine lv_iload_n hx hb dL_law_289 rfl (lv_at hl 0 rfl) ?_
  refine lv_iconst (v := 1) hx hb dL_law_290 (by decide) ?_
  refine lv_iadd hx hb dL_law_291 ?_
  refine va_sld hx hb hX hbl hbA hS h1 dL_law_292 ?_
  refine lv_aload_n hx hb dL_law_293 rfl (lv_at hl 3 rfl) ?_
  refine lv_iload_n hx hb dL_law_294 rfl (lv_at hl 0 rfl) ?_
  refine lv_iconst (v := 2) hx hb dL_law_295 (by decide) ?_
  refine lv_iadd hx hb dL_law_296 ?_
  refine va_sld hx hb hX hbl hbA hS h2 dL_law_297 ?_
  refine W.eq (g2 := F0 m 298 ls ((([bb_I (xs (nI i + 1).toNatClampNeg), bb_I (xs (nI i + 2).toNatClampNeg)] : List bb_V).map (bb_cv ad)).reverse ++ .ref (ad 7 0) :: [.int v])) rfl ?_
  refine bb_virt (own := "BeachBarsLaw") (Ts := lw_tbl) (y := 56) (k := 7) (i := 0) (as := [bb_I (xs (nI i + 1).toNatClampNeg), bb_I (xs (nI i + 2).toNatClampNeg)]) (st := [.int v]) (M := M1) (M' := M2) (r := some (bb_I v)) hx hb hown hts hK hst (bz_CS l hAd) bz_TB hc hs dL_law_298 (List.mem_of_getElem? (i := 732) (by decide +kernel)) mV_56 rfl (Nat.le_of_ble_eq_true rfl) rfl (List.forall_mem_cons.mpr ⟨trivial, List.forall_mem_cons.mpr ⟨trivial, fun _ h => absurd h List.not_mem_nil⟩⟩) (by decide) e2 hla hW hS (fun H locs _ hW hS => ?_)
  refine W.eq (g2 := F0 m 301 ls [.int v, .int v]) rfl ?_
  refine lv_icmp_eq (tgt := 676) hx hb dL_law_301 (by decide) (fun _ => ?_) (fun z9 => absurd rfl z9)
  exact kk H locs M2 hW hJ2 hS
set_option maxHeartbeats 4000000 in
set_option maxRecDepth 100000 in
theorem bz_6 (C : bz_E p s m c D ad aI aC aS b L xs) (hL : L ≤ 2048) (hi : i + 4 ≤ L) (hl : lv_has ls 4 (bz_lv ad b i)) (hc : cells ≤ room_1.cells) (hs : slots ≤ room_1.slots) (hW : bb_W D ad aI aC aS M H) (hJ : bb_JJ M) (hS : va_S (bb_A s.heap.size) s.heap H locs) (kk : bz_Kt p l e s m below meth c D ad aI aC aS b cells slots ls) : W p l e room_1 s m #[Value.ref b] below meth c H locs cells slots (lw_Z below #[Value.ref b] s) (F0 m 306 ls []) := by
  obtain ⟨hx, hb, hml, hown, hts, ⟨hX, hbl⟩, hK, hst, hAd⟩ := C
  have hbA : ¬ bb_A s.heap.size b := Nat.not_le.mpr hbl
  have hla : ls.size = c.maxLocals := hl.1.trans hml.symm
  have h1 : vp_in (nI i + 1) L := by rw [show (1 : Int32) = nI 1 from rfl, nI_add]; exact vp_in_nI (by omega) (by omega)
  obtain ⟨v, M1, M2, e1, e2, hJ2⟩ := b_run (x := xs (nI i + 1).toNatClampNeg) hJ
  refine lv_aload_n hx hb dL_law_306 rfl (lv_at hl 2 rfl) ?_
  refine lv_aload_n hx hb dL_law_307 rfl (lv_at hl 3 rfl) ?_
  refine lv_iload_n hx hb dL_law_308 rfl (lv_at hl 0 rfl) ?_
  refine lv_iconst (v := 1) hx hb dL_law_309 (by decide) ?_
  refine lv_iadd hx hb dL_law_310 ?_
  refine va_sld hx hb hX hbl hbA hS h1 dL_law_311 ?_
  refine W.eq (g2 := F0 m 312 ls ((([bb_I (xs (nI i + 1).toNatClampNeg)] : List bb_V).map (bb_cv ad)).reverse ++ .ref (ad 6 0) :: [])) rfl ?_
  refine bb_virt (own := "BeachBarsLaw") (Ts := lw_tbl) (y := 8) (k := 6) (i := 0) (as := [bb_I (xs (nI i + 1).toNatClampNeg)]) (st := []) (M := M) (M' := M1) (r := some (bb_I v)) hx hb hown hts hK hst (bz_CS l hAd) bz_TB hc hs dL_law_312 (List.mem_of_getElem? (i := 374) (by decide +kernel)) mV_8 rfl (Nat.le_of_ble_eq_true rfl) rfl (List.forall_mem_cons.mpr ⟨trivial, fun _ h => absurd h List.not_mem_nil⟩) (by decide) e1 hla hW hS (fun H locs _ hW hS => ?_)
  refine W.eq (g2 := F0 m 315 ls [.int v]) rfl ?_
  refine lv_aload_n hx hb dL_law_315 rfl (lv_at hl 1 rfl) ?_
  refine lv_aload_n hx hb dL_law_316 rfl (lv_at hl 3 rfl) ?_
  refine lv_iload_n hx hb dL_law_317 rfl (lv_at hl 0 rfl) ?_
  refine lv_iconst (v := 1) hx hb dL_law_318 (by decide) ?_
  refine lv_iadd hx hb dL_law_319 ?_
  refine va_sld hx hb hX hbl hbA hS h1 dL_law_320 ?_
  refine W.eq (g2 := F0 m 321 ls ((([bb_I (xs (nI i + 1).toNatClampNeg)] : List bb_V).map (bb_cv ad)).reverse ++ .ref (ad 7 0) :: [.int v])) rfl ?_
  refine bb_virt (own := "BeachBarsLaw") (Ts := lw_tbl) (y := 57) (k := 7) (i := 0) (as := [bb_I (xs (nI i + 1).toNatClampNeg)]) (st := [.int v]) (M := M1) (M' := M2) (r := some (bb_I v)) hx hb hown hts hK hst (bz_CS l hAd) bz_TB hc hs dL_law_321 (List.mem_of_getElem? (i := 736) (by decide +kernel)) mV_57 rfl (Nat.le_of_ble_eq_true rfl) rfl (List.forall_mem_cons.mpr ⟨trivial, fun _ h => absurd h List.not_mem_nil⟩) (by decide) e2 hla hW hS (fun H locs _ hW hS => ?_)
  refine W.eq (g2 := F0 m 324 ls [.int v, .int v]) rfl ?_
  refine lv_icmp_eq (tgt := 676) hx hb dL_law_324 (by decide) (fun _ => ?_) (fun z9 => absurd rfl z9)
  exact kk H locs M2 hW hJ2 hS
set_option maxHeartbeats 4000000 in
set_option maxRecDepth 100000 in
theorem bz_7 (C : bz_E p s m c D ad aI aC aS b L xs) (hL : L ≤ 2048) (hi : i + 4 ≤ L) (hl : lv_has ls 4 (bz_lv ad b i)) (hc : cells ≤ room_1.cells) (hs : slots ≤ room_1.slots) (hW : bb_W D ad aI aC aS M H) (hJ : bb_JJ M) (hS : va_S (bb_A s.heap.size) s.heap H locs) (kk : bz_Kt p l e s m below meth c D ad aI aC aS b cells slots ls) : W p l e room_1 s m #[Value.ref b] below meth c H locs cells slots (lw_Z below #[Value.ref b] s) (F0 m 329 ls []) := by
  obtain ⟨hx, hb, hml, hown, hts, ⟨hX, hbl⟩, hK, hst, hAd⟩ := C
  have hbA : ¬ bb_A s.heap.size b := Nat.not_le.mpr hbl
  have hla : ls.size = c.maxLocals := hl.1.trans hml.symm
  obtain ⟨v, M1, M2, e1, e2, hJ2⟩ := b_settle  hJ
  refine lv_aload_n hx hb dL_law_329 rfl (lv_at hl 2 rfl) ?_
  refine W.eq (g2 := F0 m 330 ls ((([] : List bb_V).map (bb_cv ad)).reverse ++ .ref (ad 6 0) :: [])) rfl ?_
  refine bb_virt (own := "BeachBarsLaw") (Ts := lw_tbl) (y := 9) (k := 6) (i := 0) (as := []) (st := []) (M := M) (M' := M1) (r := some (bb_I v)) hx hb hown hts hK hst (bz_CS l hAd) bz_TB hc hs dL_law_330 (List.mem_of_getElem? (i := 485) (by decide +kernel)) mV_9 rfl (Nat.le_of_ble_eq_true rfl) rfl (fun _ h => absurd h List.not_mem_nil) (by decide) e1 hla hW hS (fun H locs _ hW hS => ?_)
  refine W.eq (g2 := F0 m 333 ls [.int v]) rfl ?_
  refine lv_aload_n hx hb dL_law_333 rfl (lv_at hl 1 rfl) ?_
  refine W.eq (g2 := F0 m 334 ls ((([] : List bb_V).map (bb_cv ad)).reverse ++ .ref (ad 7 0) :: [.int v])) rfl ?_
  refine bb_virt (own := "BeachBarsLaw") (Ts := lw_tbl) (y := 58) (k := 7) (i := 0) (as := []) (st := [.int v]) (M := M1) (M' := M2) (r := some (bb_I v)) hx hb hown hts hK hst (bz_CS l hAd) bz_TB hc hs dL_law_334 (List.mem_of_getElem? (i := 789) (by decide +kernel)) mV_58 rfl (Nat.le_of_ble_eq_true rfl) rfl (fun _ h => absurd h List.not_mem_nil) (by decide) e2 hla hW hS (fun H locs _ hW hS => ?_)
  refine W.eq (g2 := F0 m 337 ls [.int v, .int v]) rfl ?_
  refine lv_icmp_eq (tgt := 676) hx hb dL_law_337 (by decide) (fun _ => ?_) (fun z9 => absurd rfl z9)
  exact kk H locs M2 hW hJ2 hS
set_option maxHeartbeats 4000000 in
set_option maxRecDepth 100000 in
theorem bz_8 (C : bz_E p s m c D ad aI aC aS b L xs) (hL : L ≤ 2048) (hi : i + 4 ≤ L) (hl : lv_has ls 4 (bz_lv ad b i)) (hc : cells ≤ room_1.cells) (hs : slots ≤ room_1.slots) (hW : bb_W D ad aI aC aS M H) (hJ : bb_JJ M) (hS : va_S (bb_A s.heap.size) s.heap H locs) (kk : bz_Kt p l e s m below meth c D ad aI aC aS b cells slots ls) : W p l e room_1 s m #[Value.ref b] below meth c H locs cells slots (lw_Z below #[Value.ref b] s) (F0 m 342 ls []) := by
  obtain ⟨hx, hb, hml, hown, hts, ⟨hX, hbl⟩, hK, hst, hAd⟩ := C
  have hbA : ¬ bb_A s.heap.size b := Nat.not_le.mpr hbl
  have hla : ls.size = c.maxLocals := hl.1.trans hml.symm
  have h1 : vp_in (nI i + 1) L := by rw [show (1 : Int32) = nI 1 from rfl, nI_add]; exact vp_in_nI (by omega) (by omega)
  obtain ⟨v, M1, M2, e1, e2, hJ2⟩ := b_type (x := (((xs (nI i + 1).toNatClampNeg).toUInt32 % 65536).toInt32)) hJ (bz_char _)
  refine lv_aload_n hx hb dL_law_342 rfl (lv_at hl 2 rfl) ?_
  refine lv_aload_n hx hb dL_law_343 rfl (lv_at hl 3 rfl) ?_
  refine lv_iload_n hx hb dL_law_344 rfl (lv_at hl 0 rfl) ?_
  refine lv_iconst (v := 1) hx hb dL_law_345 (by decide) ?_
  refine lv_iadd hx hb dL_law_346 ?_
  refine va_sld hx hb hX hbl hbA hS h1 dL_law_347 ?_
  refine lv_i2c hx hb dL_law_348 rfl ?_
  refine W.eq (g2 := F0 m 349 ls ((([bb_I ((((xs (nI i + 1).toNatClampNeg).toUInt32 % 65536).toInt32))] : List bb_V).map (bb_cv ad)).reverse ++ .ref (ad 6 0) :: [])) rfl ?_
  refine bb_virt (own := "BeachBarsLaw") (Ts := lw_tbl) (y := 10) (k := 6) (i := 0) (as := [bb_I ((((xs (nI i + 1).toNatClampNeg).toUInt32 % 65536).toInt32))]) (st := []) (M := M) (M' := M1) (r := some (bb_I v)) hx hb hown hts hK hst (bz_CS l hAd) bz_TB hc hs dL_law_349 (List.mem_of_getElem? (i := 490) (by decide +kernel)) mV_10 rfl (Nat.le_of_ble_eq_true rfl) rfl (List.forall_mem_cons.mpr ⟨trivial, fun _ h => absurd h List.not_mem_nil⟩) (by decide) e1 hla hW hS (fun H locs _ hW hS => ?_)
  refine W.eq (g2 := F0 m 352 ls [.int v]) rfl ?_
  refine lv_aload_n hx hb dL_law_352 rfl (lv_at hl 1 rfl) ?_
  refine lv_aload_n hx hb dL_law_353 rfl (lv_at hl 3 rfl) ?_
  refine lv_iload_n hx hb dL_law_354 rfl (lv_at hl 0 rfl) ?_
  refine lv_iconst (v := 1) hx hb dL_law_355 (by decide) ?_
  refine lv_iadd hx hb dL_law_356 ?_
  refine va_sld hx hb hX hbl hbA hS h1 dL_law_357 ?_
  refine lv_i2c hx hb dL_law_358 rfl ?_
  refine W.eq (g2 := F0 m 359 ls ((([bb_I ((((xs (nI i + 1).toNatClampNeg).toUInt32 % 65536).toInt32))] : List bb_V).map (bb_cv ad)).reverse ++ .ref (ad 7 0) :: [.int v])) rfl ?_
  refine bb_virt (own := "BeachBarsLaw") (Ts := lw_tbl) (y := 59) (k := 7) (i := 0) (as := [bb_I ((((xs (nI i + 1).toNatClampNeg).toUInt32 % 65536).toInt32))]) (st := [.int v]) (M := M1) (M' := M2) (r := some (bb_I v)) hx hb hown hts hK hst (bz_CS l hAd) bz_TB hc hs dL_law_359 (List.mem_of_getElem? (i := 793) (by decide +kernel)) mV_59 rfl (Nat.le_of_ble_eq_true rfl) rfl (List.forall_mem_cons.mpr ⟨trivial, fun _ h => absurd h List.not_mem_nil⟩) (by decide) e2 hla hW hS (fun H locs _ hW hS => ?_)
  refine W.eq (g2 := F0 m 362 ls [.int v, .int v]) rfl ?_
  refine lv_icmp_eq (tgt := 676) hx hb dL_law_362 (by decide) (fun _ => ?_) (fun z9 => absurd rfl z9)
  exact kk H locs M2 hW hJ2 hS
set_option maxHeartbeats 4000000 in
set_option maxRecDepth 100000 in
theorem bz_9 (C : bz_E p s m c D ad aI aC aS b L xs) (hL : L ≤ 2048) (hi : i + 4 ≤ L) (hl : lv_has ls 4 (bz_lv ad b i)) (hc : cells ≤ room_1.cells) (hs : slots ≤ room_1.slots) (hW : bb_W D ad aI aC aS M H) (hJ : bb_JJ M) (hS : va_S (bb_A s.heap.size) s.heap H locs) (kk : bz_Kt p l e s m below meth c D ad aI aC aS b cells slots ls) : W p l e room_1 s m #[Value.ref b] below meth c H locs cells slots (lw_Z below #[Value.ref b] s) (F0 m 367 ls []) := by
  obtain ⟨hx, hb, hml, hown, hts, ⟨hX, hbl⟩, hK, hst, hAd⟩ := C
  have hbA : ¬ bb_A s.heap.size b := Nat.not_le.mpr hbl
  have hla : ls.size = c.maxLocals := hl.1.trans hml.symm
  obtain ⟨v, M1, M2, e1, e2, hJ2⟩ := b_clearText  hJ
  refine lv_aload_n hx hb dL_law_367 rfl (lv_at hl 2 rfl) ?_
  refine W.eq (g2 := F0 m 368 ls ((([] : List bb_V).map (bb_cv ad)).reverse ++ .ref (ad 6 0) :: [])) rfl ?_
  refine bb_virt (own := "BeachBarsLaw") (Ts := lw_tbl) (y := 11) (k := 6) (i := 0) (as := []) (st := []) (M := M) (M' := M1) (r := some (bb_I v)) hx hb hown hts hK hst (bz_CS l hAd) bz_TB hc hs dL_law_368 (List.mem_of_getElem? (i := 502) (by decide +kernel)) mV_11 rfl (Nat.le_of_ble_eq_true rfl) rfl (fun _ h => absurd h List.not_mem_nil) (by decide) e1 hla hW hS (fun H locs _ hW hS => ?_)
  refine W.eq (g2 := F0 m 371 ls [.int v]) rfl ?_
  refine lv_aload_n hx hb dL_law_371 rfl (lv_at hl 1 rfl) ?_
  refine W.eq (g2 := F0 m 372 ls ((([] : List bb_V).map (bb_cv ad)).reverse ++ .ref (ad 7 0) :: [.int v])) rfl ?_
  refine bb_virt (own := "BeachBarsLaw") (Ts := lw_tbl) (y := 60) (k := 7) (i := 0) (as := []) (st := [.int v]) (M := M1) (M' := M2) (r := some (bb_I v)) hx hb hown hts hK hst (bz_CS l hAd) bz_TB hc hs dL_law_372 (List.mem_of_getElem? (i := 797) (by decide +kernel)) mV_60 rfl (Nat.le_of_ble_eq_true rfl) rfl (fun _ h => absurd h List.not_mem_nil) (by decide) e2 hla hW hS (fun H locs _ hW hS => ?_)
  refine W.eq (g2 := F0 m 375 ls [.int v, .int v]) rfl ?_
  refine lv_icmp_eq (tgt := 676) hx hb dL_law_375 (by decide) (fun _ => ?_) (fun z9 => absurd rfl z9)
  exact kk H locs M2 hW hJ2 hS
set_option maxHeartbeats 4000000 in
set_option maxRecDepth 100000 in
theorem bz_10 (C : bz_E p s m c D ad aI aC aS b L xs) (hL : L ≤ 2048) (hi : i + 4 ≤ L) (hl : lv_has ls 4 (bz_lv ad b i)) (hc : cells ≤ room_1.cells) (hs : slots ≤ room_1.slots) (hW : bb_W D ad aI aC aS M H) (hJ : bb_JJ M) (hS : va_S (bb_A s.heap.size) s.heap H locs) (kk : bz_Kt p l e s m below meth c D ad aI aC aS b cells slots ls) : W p l e room_1 s m #[Value.ref b] below meth c H locs cells slots (lw_Z below #[Value.ref b] s) (F0 m 380 ls []) := by
  obtain ⟨hx, hb, hml, hown, hts, ⟨hX, hbl⟩, hK, hst, hAd⟩ := C
  have hbA : ¬ bb_A s.heap.size b := Nat.not_le.mpr hbl
  have hla : ls.size = c.maxLocals := hl.1.trans hml.symm
  obtain ⟨v, M1, M2, e1, e2, hJ2⟩ := b_undo  hJ
  refine lv_aload_n hx hb dL_law_380 rfl (lv_at hl 2 rfl) ?_
  refine W.eq (g2 := F0 m 381 ls ((([] : List bb_V).map (bb_cv ad)).reverse ++ .ref (ad 6 0) :: [])) rfl ?_
  refine bb_virt (own := "BeachBarsLaw") (Ts := lw_tbl) (y := 12) (k := 6) (i := 0) (as := []) (st := []) (M := M) (M' := M1) (r := some (bb_I v)) hx hb hown hts hK hst (bz_CS l hAd) bz_TB hc hs dL_law_381 (List.mem_of_getElem? (i := 510) (by decide +kernel)) mV_12 rfl (Nat.le_of_ble_eq_true rfl) rfl (fun _ h => absurd h List.not_mem_nil) (by decide) e1 hla hW hS (fun H locs _ hW hS => ?_)
  refine W.eq (g2 := F0 m 384 ls [.int v]) rfl ?_
  refine lv_aload_n hx hb dL_law_384 rfl (lv_at hl 1 rfl) ?_
  refine W.eq (g2 := F0 m 385 ls ((([] : List bb_V).map (bb_cv ad)).reverse ++ .ref (ad 7 0) :: [.int v])) rfl ?_
  refine bb_virt (own := "BeachBarsLaw") (Ts := lw_tbl) (y := 67) (k := 7) (i := 0) (as := []) (st := [.int v]) (M := M1) (M' := M2) (r := some (bb_I v)) hx hb hown hts hK hst (bz_CS l hAd) bz_TB hc hs dL_law_385 (List.mem_of_getElem? (i := 825) (by decide +kernel)) mV_67 rfl (Nat.le_of_ble_eq_true rfl) rfl (fun _ h => absurd h List.not_mem_nil) (by decide) e2 hla hW hS (fun H locs _ hW hS => ?_)
  refine W.eq (g2 := F0 m 388 ls [.int v, .int v]) rfl ?_
  refine lv_icmp_eq (tgt := 676) hx hb dL_law_388 (by decide) (fun _ => ?_) (fun z9 => absurd rfl z9)
  exact kk H locs M2 hW hJ2 hS
set_option maxHeartbeats 4000000 in
set_option maxRecDepth 100000 in
theorem bz_11 (C : bz_E p s m c D ad aI aC aS b L xs) (hL : L ≤ 2048) (hi : i + 4 ≤ L) (hl : lv_has ls 4 (bz_lv ad b i)) (hc : cells ≤ room_1.cells) (hs : slots ≤ room_1.slots) (hW : bb_W D ad aI aC aS M H) (hJ : bb_JJ M) (hS : va_S (bb_A s.heap.size) s.heap H locs) (kk : bz_Kt p l e s m below meth c D ad aI aC aS b cells slots ls) : W p l e room_1 s m #[Value.ref b] below meth c H locs cells slots (lw_Z below #[Value.ref b] s) (F0 m 393 ls []) := by
  obtain ⟨hx, hb, hml, hown, hts, ⟨hX, hbl⟩, hK, hst, hAd⟩ := C
  have hbA : ¬ bb_A s.heap.size b := Nat.not_le.mpr hbl
  have hla : ls.size = c.maxLocals := hl.1.trans hml.symm
  obtain ⟨v, M1, M2, e1, e2, hJ2⟩ := b_keep  hJ
  refine lv_aload_n hx hb dL_law_393 rfl (lv_at hl 2 rfl) ?_
  refine W.eq (g2 := F0 m 394 ls ((([] : List bb_V).map (bb_cv ad)).reverse ++ .ref (ad 6 0) :: [])) rfl ?_
  refine bb_virt (own := "BeachBarsLaw") (Ts := lw_tbl) (y := 13) (k := 6) (i := 0) (as := []) (st := []) (M := M) (M' := M1) (r := some (bb_I v)) hx hb hown hts hK hst (bz_CS l hAd) bz_TB hc hs dL_law_394 (List.mem_of_getElem? (i := 522) (by decide +kernel)) mV_13 rfl (Nat.le_of_ble_eq_true rfl) rfl (fun _ h => absurd h List.not_mem_nil) (by decide) e1 hla hW hS (fun H locs _ hW hS => ?_)
  refine W.eq (g2 := F0 m 397 ls [.int v]) rfl ?_
  refine lv_aload_n hx hb dL_law_397 rfl (lv_at hl 1 rfl) ?_
  refine W.eq (g2 := F0 m 398 ls ((([] : List bb_V).map (bb_cv ad)).reverse ++ .ref (ad 7 0) :: [.int v])) rfl ?_
  refine bb_virt (own := "BeachBarsLaw") (Ts := lw_tbl) (y := 69) (k := 7) (i := 0) (as := []) (st := [.int v]) (M := M1) (M' := M2) (r := some (bb_I v)) hx hb hown hts hK hst (bz_CS l hAd) bz_TB hc hs dL_law_398 (List.mem_of_getElem? (i := 829) (by decide +kernel)) mV_69 rfl (Nat.le_of_ble_eq_true rfl) rfl (fun _ h => absurd h List.not_mem_nil) (by decide) e2 hla hW hS (fun H locs _ hW hS => ?_)
  refine W.eq (g2 := F0 m 401 ls [.int v, .int v]) rfl ?_
  refine lv_icmp_eq (tgt := 676) hx hb dL_law_401 (by decide) (fun _ => ?_) (fun z9 => absurd rfl z9)
  exact kk H locs M2 hW hJ2 hS
set_option maxHeartbeats 4000000 in
set_option maxRecDepth 100000 in
theorem bz_12 (C : bz_E p s m c D ad aI aC aS b L xs) (hL : L ≤ 2048) (hi : i + 4 ≤ L) (hl : lv_has ls 4 (bz_lv ad b i)) (hc : cells ≤ room_1.cells) (hs : slots ≤ room_1.slots) (hW : bb_W D ad aI aC aS M H) (hJ : bb_JJ M) (hS : va_S (bb_A s.heap.size) s.heap H locs) (kk : bz_Kt p l e s m below meth c D ad aI aC aS b cells slots ls) : W p l e room_1 s m #[Value.ref b] below meth c H locs cells slots (lw_Z below #[Value.ref b] s) (F0 m 406 ls []) := by
  obtain ⟨hx, hb, hml, hown, hts, ⟨hX, hbl⟩, hK, hst, hAd⟩ := C
  have hbA : ¬ bb_A s.heap.size b := Nat.not_le.mpr hbl
  have hla : ls.size = c.maxLocals := hl.1.trans hml.symm
  obtain ⟨v, M1, M2, e1, e2, hJ2⟩ := b_restore  hJ
  refine lv_aload_n hx hb dL_law_406 rfl (lv_at hl 2 rfl) ?_
  refine W.eq (g2 := F0 m 407 ls ((([] : List bb_V).map (bb_cv ad)).reverse ++ .ref (ad 6 0) :: [])) rfl ?_
  refine bb_virt (own := "BeachBarsLaw") (Ts := lw_tbl) (y := 14) (k := 6) (i := 0) (as := []) (st := []) (M := M) (M' := M1) (r := some (bb_I v)) hx hb hown hts hK hst (bz_CS l hAd) bz_TB hc hs dL_law_407 (List.mem_of_getElem? (i := 534) (by decide +kernel)) mV_14 rfl (Nat.le_of_ble_eq_true rfl) rfl (fun _ h => absurd h List.not_mem_nil) (by decide) e1 hla hW hS (fun H locs _ hW hS => ?_)
  refine W.eq (g2 := F0 m 410 ls [.int v]) rfl ?_
  refine lv_aload_n hx hb dL_law_410 rfl (lv_at hl 1 rfl) ?_
  refine W.eq (g2 := F0 m 411 ls ((([] : List bb_V).map (bb_cv ad)).reverse ++ .ref (ad 7 0) :: [.int v])) rfl ?_
  refine bb_virt (own := "BeachBarsLaw") (Ts := lw_tbl) (y := 70) (k := 7) (i := 0) (as := []) (st := [.int v]) (M := M1) (M' := M2) (r := some (bb_I v)) hx hb hown hts hK hst (bz_CS l hAd) bz_TB hc hs dL_law_411 (List.mem_of_getElem? (i := 837) (by decide +kernel)) mV_70 rfl (Nat.le_of_ble_eq_true rfl) rfl (fun _ h => absurd h List.not_mem_nil) (by decide) e2 hla hW hS (fun H locs _ hW hS => ?_)
  refine W.eq (g2 := F0 m 414 ls [.int v, .int v]) rfl ?_
  refine lv_icmp_eq (tgt := 676) hx hb dL_law_414 (by decide) (fun _ => ?_) (fun z9 => absurd rfl z9)
  exact kk H locs M2 hW hJ2 hS
set_option maxHeartbeats 4000000 in
set_option maxRecDepth 100000 in
theorem bz_13 (C : bz_E p s m c D ad aI aC aS b L xs) (hL : L ≤ 2048) (hi : i + 4 ≤ L) (hl : lv_has ls 4 (bz_lv ad b i)) (hc : cells ≤ room_1.cells) (hs : slots ≤ room_1.slots) (hW : bb_W D ad aI aC aS M H) (hJ : bb_JJ M) (hS : va_S (bb_A s.heap.size) s.heap H locs) (kk : bz_Kt p l e s m below meth c D ad aI aC aS b cells slots ls) : W p l e room_1 s m #[Value.ref b] below meth c H locs cells slots (lw_Z below #[Value.ref b] s) (F0 m 419 ls []) := by
  obtain ⟨hx, hb, hml, hown, hts, ⟨hX, hbl⟩, hK, hst, hAd⟩ := C
  have hbA : ¬ bb_A s.heap.size b := Nat.not_le.mpr hbl
  have hla : ls.size = c.maxLocals := hl.1.trans hml.symm
  have h1 : vp_in (nI i + 1) L := by rw [show (1 : Int32) = nI 1 from rfl, nI_add]; exact vp_in_nI (by omega) (by omega)
  have h2 : vp_in (nI i + 2) L := by rw [show (2 : Int32) = nI 2 from rfl, nI_add]; exact vp_in_nI (by omega) (by omega)
  have h3 : vp_in (nI i + 3) L := by rw [show (3 : Int32) = nI 3 from rfl, nI_add]; exact vp_in_nI (by omega) (by omega)
  obtain ⟨v, M1, M2, e1, e2, hJ2⟩ := b_cell (x := xs (nI i + 1).toNatClampNeg) (y := xs (nI i + 2).toNatClampNeg) (z := xs (nI i + 3).toNatClampNeg) hJ
  refine lv_aload_n hx hb dL_law_419 rfl (lv_at hl 2 rfl) ?_
  refine lv_aload_n hx hb dL_law_420 rfl (lv_at hl 3 rfl) ?_
  refine lv_iload_n hx hb dL_law_421 rfl (lv_at hl 0 rfl) ?_
  refine lv_iconst (v := 1) hx hb dL_law_422 (by decide) ?_
  refine lv_iadd hx hb dL_law_423 ?_
  refine va_sld hx hb hX hbl hbA hS h1 dL_law_424 ?_
  refine lv_aload_n hx hb dL_law_425 rfl (lv_at hl 3 rfl) ?_
  refine lv_iload_n hx hb dL_law_426 rfl (lv_at hl 0 rfl) ?_
  refine lv_iconst (v := 2) hx hb dL_law_427 (by decide) ?_
  refine lv_iadd hx hb dL_law_428 ?_
  refine va_sld hx hb hX hbl hbA hS h2 dL_law_429 ?_
  refine lv_aload_n hx hb dL_law_430 rfl (lv_at hl 3 rfl) ?_
  refine lv_iload_n hx hb dL_law_431 rfl (lv_at hl 0 rfl) ?_
  refine lv_iconst (v := 3) hx hb dL_law_432 (by decide) ?_
  refine lv_iadd hx hb dL_law_433 ?_
  refine va_sld hx hb hX hbl hbA hS h3 dL_law_434 ?_
  refine W.eq (g2 := F0 m 435 ls ((([bb_I (xs (nI i + 1).toNatClampNeg), bb_I (xs (nI i + 2).toNatClampNeg), bb_I (xs (nI i + 3).toNatClampNeg)] : List bb_V).map (bb_cv ad)).reverse ++ .ref (ad 6 0) :: [])) rfl ?_
  refine bb_virt (own := "BeachBarsLaw") (Ts := lw_tbl) (y := 15) (k := 6) (i := 0) (as := [bb_I (xs (nI i + 1).toNatClampNeg), bb_I (xs (nI i + 2).toNatClampNeg), bb_I (xs (nI i + 3).toNatClampNeg)]) (st := []) (M := M) (M' := M1) (r := some (bb_I v)) hx hb hown hts hK hst (bz_CS l hAd) bz_TB hc hs dL_law_435 (List.mem_of_getElem? (i := 538) (by decide +kernel)) mV_15 rfl (Nat.le_of_ble_eq_true rfl) rfl (List.forall_mem_cons.mpr ⟨trivial, List.forall_mem_cons.mpr ⟨trivial, List.forall_mem_cons.mpr ⟨trivial, fun _ h => absurd h List.not_mem_nil⟩⟩⟩) (by decide) e1 hla hW hS (fun H locs _ hW hS => ?_)
  refine W.eq (g2 := F0 m 438 ls [.int v]) rfl ?_
  refine lv_aload_n hx hb dL_law_438 rfl (lv_at hl 1 rfl) ?_
  refine lv_aload_n hx hb dL_law_439 rfl (lv_at hl 3 rfl) ?_
  refine lv_iload_n hx hb dL_law_440 rfl (lv_at hl 0 rfl) ?_
  refine lv_iconst (v := 1) hx hb dL_law_441 (by decide) ?_
  refine lv_iadd hx hb dL_law_442 ?_
  refine va_sld hx hb hX hbl hbA hS h1 dL_law_443 ?_
  refine lv_aload_n hx hb dL_law_444 rfl (lv_at hl 3 rfl) ?_
  refine lv_iload_n hx hb dL_law_445 rfl (lv_at hl 0 rfl) ?_
  refine lv_iconst (v := 2) hx hb dL_law_446 (by decide) ?_
  refine lv_iadd hx hb dL_law_447 ?_
  refine va_sld hx hb hX hbl hbA hS h2 dL_law_448 ?_
  refine lv_aload_n hx hb dL_law_449 rfl (lv_at hl 3 rfl) ?_
  refine lv_iload_n hx hb dL_law_450 rfl (lv_at hl 0 rfl) ?_
  refine lv_iconst (v := 3) hx hb dL_law_451 (by decide) ?_
  refine lv_iadd hx hb dL_law_452 ?_
  refine va_sld hx hb hX hbl hbA hS h3 dL_law_453 ?_
  refine W.eq (g2 := F0 m 454 ls ((([bb_I (xs (nI i + 1).toNatClampNeg), bb_I (xs (nI i + 2).toNatClampNeg), bb_I (xs (nI i + 3).toNatClampNeg)] : List bb_V).map (bb_cv ad)).reverse ++ .ref (ad 7 0) :: [.int v])) rfl ?_
  refine bb_virt (own := "BeachBarsLaw") (Ts := lw_tbl) (y := 71) (k := 7) (i := 0) (as := [bb_I (xs (nI i + 1).toNatClampNeg), bb_I (xs (nI i + 2).toNatClampNeg), bb_I (xs (nI i + 3).toNatClampNeg)]) (st := [.int v]) (M := M1) (M' := M2) (r := some (bb_I v)) hx hb hown hts hK hst (bz_CS l hAd) bz_TB hc hs dL_law_454 (List.mem_of_getElem? (i := 841) (by decide +kernel)) mV_71 rfl (Nat.le_of_ble_eq_true rfl) rfl (List.forall_mem_cons.mpr ⟨trivial, List.forall_mem_cons.mpr ⟨trivial, List.forall_mem_cons.mpr ⟨trivial, fun _ h => absurd h List.not_mem_nil⟩⟩⟩) (by decide) e2 hla hW hS (fun H locs _ hW hS => ?_)
  refine W.eq (g2 := F0 m 457 ls [.int v, .int v]) rfl ?_
  refine lv_icmp_eq (tgt := 676) hx hb dL_law_457 (by decide) (fun _ => ?_) (fun z9 => absurd rfl z9)
  exact kk H locs M2 hW hJ2 hS
set_option maxHeartbeats 4000000 in
set_option maxRecDepth 100000 in
theorem bz_14 (C : bz_E p s m c D ad aI aC aS b L xs) (hL : L ≤ 2048) (hi : i + 4 ≤ L) (hl : lv_has ls 4 (bz_lv ad b i)) (hc : cells ≤ room_1.cells) (hs : slots ≤ room_1.slots) (hW : bb_W D ad aI aC aS M H) (hJ : bb_JJ M) (hS : va_S (bb_A s.heap.size) s.heap H locs) (kk : bz_Kt p l e s m below meth c D ad aI aC aS b cells slots ls) : W p l e room_1 s m #[Value.ref b] below meth c H locs cells slots (lw_Z below #[Value.ref b] s) (F0 m 462 ls []) := by
  obtain ⟨hx, hb, hml, hown, hts, ⟨hX, hbl⟩, hK, hst, hAd⟩ := C
  have hbA : ¬ bb_A s.heap.size b := Nat.not_le.mpr hbl
  have hla : ls.size = c.maxLocals := hl.1.trans hml.symm
  have h1 : vp_in (nI i + 1) L := by rw [show (1 : Int32) = nI 1 from rfl, nI_add]; exact vp_in_nI (by omega) (by omega)
  have h2 : vp_in (nI i + 2) L := by rw [show (2 : Int32) = nI 2 from rfl, nI_add]; exact vp_in_nI (by omega) (by omega)
  obtain ⟨v, M1, M2, e1, e2, hJ2⟩ := b_row (x := xs (nI i + 1).toNatClampNeg) (y := xs (nI i + 2).toNatClampNeg) hJ
  refine lv_aload_n hx hb dL_law_462 rfl (lv_at hl 2 rfl) ?_
  refine lv_aload_n hx hb dL_law_463 rfl (lv_at hl 3 rfl) ?_
  refine lv_iload_n hx hb dL_law_464 rfl (lv_at hl 0 rfl) ?_
  refine lv_iconst (v := 1) hx hb dL_law_465 (by decide) ?_
  refine lv_iadd hx hb dL_law_466 ?_
  refine va_sld hx hb hX hbl hbA hS h1 dL_law_467 ?_
  refine lv_aload_n hx hb dL_law_468 rfl (lv_at hl 3 rfl) ?_
  refine lv_iload_n hx hb dL_law_469 rfl (lv_at hl 0 rfl) ?_
  refine lv_iconst (v := 2) hx hb dL_law_470 (by decide) ?_
  refine lv_iadd hx hb dL_law_471 ?_
  refine va_sld hx hb hX hbl hbA hS h2 dL_law_472 ?_
  refine W.eq (g2 := F0 m 473 ls ((([bb_I (xs (nI i + 1).toNatClampNeg), bb_I (xs (nI i + 2).toNatClampNeg)] : List bb_V).map (bb_cv ad)).reverse ++ .ref (ad 6 0) :: [])) rfl ?_
  refine bb_virt (own := "BeachBarsLaw") (Ts := lw_tbl) (y := 16) (k := 6) (i := 0) (as := [bb_I (xs (nI i + 1).toNatClampNeg), bb_I (xs (nI i + 2).toNatClampNeg)]) (st := []) (M := M) (M' := M1) (r := some (bb_I v)) hx hb hown hts hK hst (bz_CS l hAd) bz_TB hc hs dL_law_473 (List.mem_of_getElem? (i := 545) (by decide +kernel)) mV_16 rfl (Nat.le_of_ble_eq_true rfl) rfl (List.forall_mem_cons.mpr ⟨trivial, List.forall_mem_cons.mpr ⟨trivial, fun _ h => absurd h List.not_mem_nil⟩⟩) (by decide) e1 hla hW hS (fun H locs _ hW hS => ?_)
  refine W.eq (g2 := F0 m 476 ls [.int v]) rfl ?_
  refine lv_aload_n hx hb dL_law_476 rfl (lv_at hl 1 rfl) ?_
  refine lv_aload_n hx hb dL_law_477 rfl (lv_at hl 3 rfl) ?_
  refine lv_iload_n hx hb dL_law_478 rfl (lv_at hl 0 rfl) ?_
  refine lv_iconst (v := 1) hx hb dL_law_479 (by decide) ?_
  refine lv_iadd hx hb dL_law_480 ?_
  refine va_sld hx hb hX hbl hbA hS h1 dL_law_481 ?_
  refine lv_aload_n hx hb dL_law_482 rfl (lv_at hl 3 rfl) ?_
  refine lv_iload_n hx hb dL_law_483 rfl (lv_at hl 0 rfl) ?_
  refine lv_iconst (v := 2) hx hb dL_law_484 (by decide) ?_
  refine lv_iadd hx hb dL_law_485 ?_
  refine va_sld hx hb hX hbl hbA hS h2 dL_law_486 ?_
  refine W.eq (g2 := F0 m 487 ls ((([bb_I (xs (nI i + 1).toNatClampNeg), bb_I (xs (nI i + 2).toNatClampNeg)] : List bb_V).map (bb_cv ad)).reverse ++ .ref (ad 7 0) :: [.int v])) rfl ?_
  refine bb_virt (own := "BeachBarsLaw") (Ts := lw_tbl) (y := 78) (k := 7) (i := 0) (as := [bb_I (xs (nI i + 1).toNatClampNeg), bb_I (xs (nI i + 2).toNatClampNeg)]) (st := [.int v]) (M := M1) (M' := M2) (r := some (bb_I v)) hx hb hown hts hK hst (bz_CS l hAd) bz_TB hc hs dL_law_487 (List.mem_of_getElem? (i := 845) (by decide +kernel)) mV_78 rfl (Nat.le_of_ble_eq_true rfl) rfl (List.forall_mem_cons.mpr ⟨trivial, List.forall_mem_cons.mpr ⟨trivial, fun _ h => absurd h List.not_mem_nil⟩⟩) (by decide) e2 hla hW hS (fun H locs _ hW hS => ?_)
  refine W.eq (g2 := F0 m 490 ls [.int v, .int v]) rfl ?_
  refine lv_icmp_eq (tgt := 676) hx hb dL_law_490 (by decide) (fun _ => ?_) (fun z9 => absurd rfl z9)
  exact kk H locs M2 hW hJ2 hS
set_option maxHeartbeats 4000000 in
set_option maxRecDepth 100000 in
theorem bz_15 (C : bz_E p s m c D ad aI aC aS b L xs) (hL : L ≤ 2048) (hi : i + 4 ≤ L) (hl : lv_has ls 4 (bz_lv ad b i)) (hc : cells ≤ room_1.cells) (hs : slots ≤ room_1.slots) (hW : bb_W D ad aI aC aS M H) (hJ : bb_JJ M) (hS : va_S (bb_A s.heap.size) s.heap H locs) (kk : bz_Kt p l e s m below meth c D ad aI aC aS b cells slots ls) : W p l e room_1 s m #[Value.ref b] below meth c H locs cells slots (lw_Z below #[Value.ref b] s) (F0 m 495 ls []) := by
  obtain ⟨hx, hb, hml, hown, hts, ⟨hX, hbl⟩, hK, hst, hAd⟩ := C
  have hbA : ¬ bb_A s.heap.size b := Nat.not_le.mpr hbl
  have hla : ls.size = c.maxLocals := hl.1.trans hml.symm
  have h1 : vp_in (nI i + 1) L := by rw [show (1 : Int32) = nI 1 from rfl, nI_add]; exact vp_in_nI (by omega) (by omega)
  have h2 : vp_in (nI i + 2) L := by rw [show (2 : Int32) = nI 2 from rfl, nI_add]; exact vp_in_nI (by omega) (by omega)
  by_cases z : xs (nI i + 2).toNatClampNeg = 0
  · skip
    obtain ⟨v, M1, M2, e1, e2, hJ2⟩ := b_waiting (x := xs (nI i + 1).toNatClampNeg) (y := 0) hJ
    refine lv_aload_n hx hb dL_law_495 rfl (lv_at hl 2 rfl) ?_
    refine lv_aload_n hx hb dL_law_496 rfl (lv_at hl 3 rfl) ?_
    refine lv_iload_n hx hb dL_law_497 rfl (lv_at hl 0 rfl) ?_
    refine lv_iconst (v := 1) hx hb dL_law_498 (by decide) ?_
    refine lv_iadd hx hb dL_law_499 ?_
    refine va_sld hx hb hX hbl hbA hS h1 dL_law_500 ?_
    refine lv_aload_n hx hb dL_law_501 rfl (lv_at hl 3 rfl) ?_
    refine lv_iload_n hx hb dL_law_502 rfl (lv_at hl 0 rfl) ?_
    refine lv_iconst (v := 2) hx hb dL_law_503 (by decide) ?_
    refine lv_iadd hx hb dL_law_504 ?_
    refine va_sld hx hb hX hbl hbA hS h2 dL_law_505 ?_
    refine lv_if_eq (tgt := 513) hx hb dL_law_506 (by decide) (fun _ => ?_) (fun z9 => absurd z z9)
    refine lv_iconst (v := 0) hx hb dL_law_513 (by decide) ?_
    refine W.eq (g2 := F0 m 514 ls ((([bb_I (xs (nI i + 1).toNatClampNeg), bb_I (0)] : List bb_V).map (bb_cv ad)).reverse ++ .ref (ad 6 0) :: [])) rfl ?_
    refine bb_virt (own := "BeachBarsLaw") (Ts := lw_tbl) (y := 17) (k := 6) (i := 0) (as := [bb_I (xs (nI i + 1).toNatClampNeg), bb_I (0)]) (st := []) (M := M) (M' := M1) (r := some (bb_I v)) hx hb hown hts hK hst (bz_CS l hAd) bz_TB hc hs dL_law_514 (List.mem_of_getElem? (i := 582) (by decide +kernel)) mV_17 rfl (Nat.le_of_ble_eq_true rfl) rfl (List.forall_mem_cons.mpr ⟨trivial, List.forall_mem_cons.mpr ⟨trivial, fun _ h => absurd h List.not_mem_nil⟩⟩) (by decide) e1 hla hW hS (fun H locs _ hW hS => ?_)
    refine W.eq (g2 := F0 m 517 ls [.int v]) rfl ?_
    refine lv_aload_n hx hb dL_law_517 rfl (lv_at hl 1 rfl) ?_
    refine lv_aload_n hx hb dL_law_518 rfl (lv_at hl 3 rfl) ?_
    refine lv_iload_n hx hb dL_law_519 rfl (lv_at hl 0 rfl) ?_
    refine lv_iconst (v := 1) hx hb dL_law_520 (by decide) ?_
    refine lv_iadd hx hb dL_law_521 ?_
    refine va_sld hx hb hX hbl hbA hS h1 dL_law_522 ?_
    refine lv_aload_n hx hb dL_law_523 rfl (lv_at hl 3 rfl) ?_
    refine lv_iload_n hx hb dL_law_524 rfl (lv_at hl 0 rfl) ?_
    refine lv_iconst (v := 2) hx hb dL_law_525 (by decide) ?_
    refine lv_iadd hx hb dL_law_526 ?_
    refine va_sld hx hb hX hbl hbA hS h2 dL_law_527 ?_
    refine lv_if_eq (tgt := 535) hx hb dL_law_528 (by decide) (fun _ => ?_) (fun z9 => absurd z z9)
    refine lv_iconst (v := 0) hx hb dL_law_535 (by decide) ?_
    refine W.eq (g2 := F0 m 536 ls ((([bb_I (xs (nI i + 1).toNatClampNeg), bb_I (0)] : List bb_V).map (bb_cv ad)).reverse ++ .ref (ad 7 0) :: [.int v])) rfl ?_
    refine bb_virt (own := "BeachBarsLaw") (Ts := lw_tbl) (y := 79) (k := 7) (i := 0) (as := [bb_I (xs (nI i + 1).toNatClampNeg), bb_I (0)]) (st := [.int v]) (M := M1) (M' := M2) (r := some (bb_I v)) hx hb hown hts hK hst (bz_CS l hAd) bz_TB hc hs dL_law_536 (List.mem_of_getElem? (i := 872) (by decide +kernel)) mV_79 rfl (Nat.le_of_ble_eq_true rfl) rfl (List.forall_mem_cons.mpr ⟨trivial, List.forall_mem_cons.mpr ⟨trivial, fun _ h => absurd h List.not_mem_nil⟩⟩) (by decide) e2 hla hW hS (fun H locs _ hW hS => ?_)
    refine W.eq (g2 := F0 m 539 ls [.int v, .int v]) rfl ?_
    refine lv_icmp_eq (tgt := 676) hx hb dL_law_539 (by decide) (fun _ => ?_) (fun z9 => absurd rfl z9)
    exact kk H locs M2 hW hJ2 hS
  · skip
    obtain ⟨v, M1, M2, e1, e2, hJ2⟩ := b_waiting (x := xs (nI i + 1).toNatClampNeg) (y := 1) hJ
    refine lv_aload_n hx hb dL_law_495 rfl (lv_at hl 2 rfl) ?_
    refine lv_aload_n hx hb dL_law_496 rfl (lv_at hl 3 rfl) ?_
    refine lv_iload_n hx hb dL_law_497 rfl (lv_at hl 0 rfl) ?_
    refine lv_iconst (v := 1) hx hb dL_law_498 (by decide) ?_
    refine lv_iadd hx hb dL_law_499 ?_
    refine va_sld hx hb hX hbl hbA hS h1 dL_law_500 ?_
    refine lv_aload_n hx hb dL_law_501 rfl (lv_at hl 3 rfl) ?_
    refine lv_iload_n hx hb dL_law_502 rfl (lv_at hl 0 rfl) ?_
    refine lv_iconst (v := 2) hx hb dL_law_503 (by decide) ?_
    refine lv_iadd hx hb dL_law_504 ?_
    refine va_sld hx hb hX hbl hbA hS h2 dL_law_505 ?_
    refine lv_if_eq (tgt := 513) hx hb dL_law_506 (by decide) (fun z9 => absurd z9 z) (fun _ => ?_)
    refine lv_iconst (v := 1) hx hb dL_law_509 (by decide) ?_
    refine lv_goto (tgt := 514) hx hb dL_law_510 (by decide) ?_
    refine W.eq (g2 := F0 m 514 ls ((([bb_I (xs (nI i + 1).toNatClampNeg), bb_I (1)] : List bb_V).map (bb_cv ad)).reverse ++ .ref (ad 6 0) :: [])) rfl ?_
    refine bb_virt (own := "BeachBarsLaw") (Ts := lw_tbl) (y := 17) (k := 6) (i := 0) (as := [bb_I (xs (nI i + 1).toNatClampNeg), bb_I (1)]) (st := []) (M := M) (M' := M1) (r := some (bb_I v)) hx hb hown hts hK hst (bz_CS l hAd) bz_TB hc hs dL_law_514 (List.mem_of_getElem? (i := 582) (by decide +kernel)) mV_17 rfl (Nat.le_of_ble_eq_true rfl) rfl (List.forall_mem_cons.mpr ⟨trivial, List.forall_mem_cons.mpr ⟨trivial, fun _ h => absurd h List.not_mem_nil⟩⟩) (by decide) e1 hla hW hS (fun H locs _ hW hS => ?_)
    refine W.eq (g2 := F0 m 517 ls [.int v]) rfl ?_
    refine lv_aload_n hx hb dL_law_517 rfl (lv_at hl 1 rfl) ?_
    refine lv_aload_n hx hb dL_law_518 rfl (lv_at hl 3 rfl) ?_
    refine lv_iload_n hx hb dL_law_519 rfl (lv_at hl 0 rfl) ?_
    refine lv_iconst (v := 1) hx hb dL_law_520 (by decide) ?_
    refine lv_iadd hx hb dL_law_521 ?_
    refine va_sld hx hb hX hbl hbA hS h1 dL_law_522 ?_
    refine lv_aload_n hx hb dL_law_523 rfl (lv_at hl 3 rfl) ?_
    refine lv_iload_n hx hb dL_law_524 rfl (lv_at hl 0 rfl) ?_
    refine lv_iconst (v := 2) hx hb dL_law_525 (by decide) ?_
    refine lv_iadd hx hb dL_law_526 ?_
    refine va_sld hx hb hX hbl hbA hS h2 dL_law_527 ?_
    refine lv_if_eq (tgt := 535) hx hb dL_law_528 (by decide) (fun z9 => absurd z9 z) (fun _ => ?_)
    refine lv_iconst (v := 1) hx hb dL_law_531 (by decide) ?_
    refine lv_goto (tgt := 536) hx hb dL_law_532 (by decide) ?_
    refine W.eq (g2 := F0 m 536 ls ((([bb_I (xs (nI i + 1).toNatClampNeg), bb_I (1)] : List bb_V).map (bb_cv ad)).reverse ++ .ref (ad 7 0) :: [.int v])) rfl ?_
    refine bb_virt (own := "BeachBarsLaw") (Ts := lw_tbl) (y := 79) (k := 7) (i := 0) (as := [bb_I (xs (nI i + 1).toNatClampNeg), bb_I (1)]) (st := [.int v]) (M := M1) (M' := M2) (r := some (bb_I v)) hx hb hown hts hK hst (bz_CS l hAd) bz_TB hc hs dL_law_536 (List.mem_of_getElem? (i := 872) (by decide +kernel)) mV_79 rfl (Nat.le_of_ble_eq_true rfl) rfl (List.forall_mem_cons.mpr ⟨trivial, List.forall_mem_cons.mpr ⟨trivial, fun _ h => absurd h List.not_mem_nil⟩⟩) (by decide) e2 hla hW hS (fun H locs _ hW hS => ?_)
    refine W.eq (g2 := F0 m 539 ls [.int v, .int v]) rfl ?_
    refine lv_icmp_eq (tgt := 676) hx hb dL_law_539 (by decide) (fun _ => ?_) (fun z9 => absurd rfl z9)
    exact kk H locs M2 hW hJ2 hS
set_option maxHeartbeats 4000000 in
set_option maxRecDepth 100000 in
theorem bz_16 (C : bz_E p s m c D ad aI aC aS b L xs) (hL : L ≤ 2048) (hi : i + 4 ≤ L) (hl : lv_has ls 4 (bz_lv ad b i)) (hc : cells ≤ room_1.cells) (hs : slots ≤ room_1.slots) (hW : bb_W D ad aI aC aS M H) (hJ : bb_JJ M) (hS : va_S (bb_A s.heap.size) s.heap H locs) (kk : bz_Kt p l e s m below meth c D ad aI aC aS b cells slots ls) : W p l e room_1 s m #[Value.ref b] below meth c H locs cells slots (lw_Z below #[Value.ref b] s) (F0 m 544 ls []) := by
  obtain ⟨hx, hb, hml, hown, hts, ⟨hX, hbl⟩, hK, hst, hAd⟩ := C
  have hbA : ¬ bb_A s.heap.size b := Nat.not_le.mpr hbl
  have hla : ls.size = c.maxLocals := hl.1.trans hml.symm
  have h1 : vp_in (nI i + 1) L := by rw [show (1 : Int32) = nI 1 from rfl, nI_add]; exact vp_in_nI (by omega) (by omega)
  have h2 : vp_in (nI i + 2) L := by rw [show (2 : Int32) = nI 2 from rfl, nI_add]; exact vp_in_nI (by omega) (by omega)
  obtain ⟨v, M1, M2, e1, e2, hJ2⟩ := b_ended (x := xs (nI i + 1).toNatClampNeg) (y := xs (nI i + 2).toNatClampNeg) hJ
  refine lv_aload_n hx hb dL_law_544 rfl (lv_at hl 2 rfl) ?_
  refine lv_aload_n hx hb dL_law_545 rfl (lv_at hl 3 rfl) ?_
  refine lv_iload_n hx hb dL_law_546 rfl (lv_at hl 0 rfl) ?_
  refine lv_iconst (v := 1) hx hb dL_law_547 (by decide) ?_
  refine lv_iadd hx hb dL_law_548 ?_
  refine va_sld hx hb hX hbl hbA hS h1 dL_law_549 ?_
  refine lv_aload_n hx hb dL_law_550 rfl (lv_at hl 3 rfl) ?_
  refine lv_iload_n hx hb dL_law_551 rfl (lv_at hl 0 rfl) ?_
  refine lv_iconst (v := 2) hx hb dL_law_552 (by decide) ?_
  refine lv_iadd hx hb dL_law_553 ?_
  refine va_sld hx hb hX hbl hbA hS h2 dL_law_554 ?_
  refine W.eq (g2 := F0 m 555 ls ((([bb_I (xs (nI i + 1).toNatClampNeg), bb_I (xs (nI i + 2).toNatClampNeg)] : List bb_V).map (bb_cv ad)).reverse ++ .ref (ad 6 0) :: [])) rfl ?_
  refine bb_virt (own := "BeachBarsLaw") (Ts := lw_tbl) (y := 18) (k := 6) (i := 0) (as := [bb_I (xs (nI i + 1).toNatClampNeg), bb_I (xs (nI i + 2).toNatClampNeg)]) (st := []) (M := M) (M' := M1) (r := some (bb_I v)) hx hb hown hts hK hst (bz_CS l hAd) bz_TB hc hs dL_law_555 (List.mem_of_getElem? (i := 586) (by decide +kernel)) mV_18 rfl (Nat.le_of_ble_eq_true rfl) rfl (List.forall_mem_cons.mpr ⟨trivial, List.forall_mem_cons.mpr ⟨trivial, fun _ h => absurd h List.not_mem_nil⟩⟩) (by decide) e1 hla hW hS (fun H locs _ hW hS => ?_)
  refine W.eq (g2 := F0 m 558 ls [.int v]) rfl ?_
  refine lv_aload_n hx hb dL_law_558 rfl (lv_at hl 1 rfl) ?_
  refine lv_aload_n hx hb dL_law_559 rfl (lv_at hl 3 rfl) ?_
  refine lv_iload_n hx hb dL_law_560 rfl (lv_at hl 0 rfl) ?_
  refine lv_iconst (v := 1) hx hb dL_law_561 (by decide) ?_
  refine lv_iadd hx hb dL_law_562 ?_
  refine va_sld hx hb hX hbl hbA hS h1 dL_law_563 ?_
  refine lv_aload_n hx hb dL_law_564 rfl (lv_at hl 3 rfl) ?_
  refine lv_iload_n hx hb dL_law_565 rfl (lv_at hl 0 rfl) ?_
  refine lv_iconst (v := 2) hx hb dL_law_566 (by decide) ?_
  refine lv_iadd hx hb dL_law_567 ?_
  refine va_sld hx hb hX hbl hbA hS h2 dL_law_568 ?_
  refine W.eq (g2 := F0 m 569 ls ((([bb_I (xs (nI i + 1).toNatClampNeg), bb_I (xs (nI i + 2).toNatClampNeg)] : List bb_V).map (bb_cv ad)).reverse ++ .ref (ad 7 0) :: [.int v])) rfl ?_
  refine bb_virt (own := "BeachBarsLaw") (Ts := lw_tbl) (y := 80) (k := 7) (i := 0) (as := [bb_I (xs (nI i + 1).toNatClampNeg), bb_I (xs (nI i + 2).toNatClampNeg)]) (st := [.int v]) (M := M1) (M' := M2) (r := some (bb_I v)) hx hb hown hts hK hst (bz_CS l hAd) bz_TB hc hs dL_law_569 (List.mem_of_getElem? (i := 876) (by decide +kernel)) mV_80 rfl (Nat.le_of_ble_eq_true rfl) rfl (List.forall_mem_cons.mpr ⟨trivial, List.forall_mem_cons.mpr ⟨trivial, fun _ h => absurd h List.not_mem_nil⟩⟩) (by decide) e2 hla hW hS (fun H locs _ hW hS => ?_)
  refine W.eq (g2 := F0 m 572 ls [.int v, .int v]) rfl ?_
  refine lv_icmp_eq (tgt := 676) hx hb dL_law_572 (by decide) (fun _ => ?_) (fun z9 => absurd rfl z9)
  exact kk H locs M2 hW hJ2 hS
set_option maxHeartbeats 4000000 in
set_option maxRecDepth 100000 in
theorem bz_17 (C : bz_E p s m c D ad aI aC aS b L xs) (hL : L ≤ 2048) (hi : i + 4 ≤ L) (hl : lv_has ls 4 (bz_lv ad b i)) (hc : cells ≤ room_1.cells) (hs : slots ≤ room_1.slots) (hW : bb_W D ad aI aC aS M H) (hJ : bb_JJ M) (hS : va_S (bb_A s.heap.size) s.heap H locs) (kk : bz_Kt p l e s m below meth c D ad aI aC aS b cells slots ls) : W p l e room_1 s m #[Value.ref b] below meth c H locs cells slots (lw_Z below #[Value.ref b] s) (F0 m 577 ls []) := by
  obtain ⟨hx, hb, hml, hown, hts, ⟨hX, hbl⟩, hK, hst, hAd⟩ := C
  have hbA : ¬ bb_A s.heap.size b := Nat.not_le.mpr hbl
  have hla : ls.size = c.maxLocals := hl.1.trans hml.symm
  have h1 : vp_in (nI i + 1) L := by rw [show (1 : Int32) = nI 1 from rfl, nI_add]; exact vp_in_nI (by omega) (by omega)
  have h2 : vp_in (nI i + 2) L := by rw [show (2 : Int32) = nI 2 from rfl, nI_add]; exact vp_in_nI (by omega) (by omega)
  have h3 : vp_in (nI i + 3) L := by rw [show (3 : Int32) = nI 3 from rfl, nI_add]; exact vp_in_nI (by omega) (by omega)
  obtain ⟨v, M1, M2, e1, e2, hJ2⟩ := b_would (x := xs (nI i + 1).toNatClampNeg) (y := xs (nI i + 2).toNatClampNeg) (z := xs (nI i + 3).toNatClampNeg) hJ
  refine lv_aload_n hx hb dL_law_577 rfl (lv_at hl 2 rfl) ?_
  refine lv_aload_n hx hb dL_law_578 rfl (lv_at hl 3 rfl) ?_
  refine lv_iload_n hx hb dL_law_579 rfl (lv_at hl 0 rfl) ?_
  refine lv_iconst (v := 1) hx hb dL_law_580 (by decide) ?_
  refine lv_iadd hx hb dL_law_581 ?_
  refine va_sld hx hb hX hbl hbA hS h1 dL_law_582 ?_
  refine lv_aload_n hx hb dL_law_583 rfl (lv_at hl 3 rfl) ?_
  refine lv_iload_n hx hb dL_law_584 rfl (lv_at hl 0 rfl) ?_
  refine lv_iconst (v := 2) hx hb dL_law_585 (by decide) ?_
  refine lv_iadd hx hb dL_law_586 ?_
  refine va_sld hx hb hX hbl hbA hS h2 dL_law_587 ?_
  refine lv_aload_n hx hb dL_law_588 rfl (lv_at hl 3 rfl) ?_
  refine lv_iload_n hx hb dL_law_589 rfl (lv_at hl 0 rfl) ?_
  refine lv_iconst (v := 3) hx hb dL_law_590 (by decide) ?_
  refine lv_iadd hx hb dL_law_591 ?_
  refine va_sld hx hb hX hbl hbA hS h3 dL_law_592 ?_
  refine W.eq (g2 := F0 m 593 ls ((([bb_I (xs (nI i + 1).toNatClampNeg), bb_I (xs (nI i + 2).toNatClampNeg), bb_I (xs (nI i + 3).toNatClampNeg)] : List bb_V).map (bb_cv ad)).reverse ++ .ref (ad 6 0) :: [])) rfl ?_
  refine bb_virt (own := "BeachBarsLaw") (Ts := lw_tbl) (y := 19) (k := 6) (i := 0) (as := [bb_I (xs (nI i + 1).toNatClampNeg), bb_I (xs (nI i + 2).toNatClampNeg), bb_I (xs (nI i + 3).toNatClampNeg)]) (st := []) (M := M) (M' := M1) (r := some (bb_I v)) hx hb hown hts hK hst (bz_CS l hAd) bz_TB hc hs dL_law_593 (List.mem_of_getElem? (i := 590) (by decide +kernel)) mV_19 rfl (Nat.le_of_ble_eq_true rfl) rfl (List.forall_mem_cons.mpr ⟨trivial, List.forall_mem_cons.mpr ⟨trivial, List.forall_mem_cons.mpr ⟨trivial, fun _ h => absurd h List.not_mem_nil⟩⟩⟩) (by decide) e1 hla hW hS (fun H locs _ hW hS => ?_)
  refine W.eq (g2 := F0 m 596 ls [.int v]) rfl ?_
  refine lv_aload_n hx hb dL_law_596 rfl (lv_at hl 1 rfl) ?_
  refine lv_aload_n hx hb dL_law_597 rfl (lv_at hl 3 rfl) ?_
  refine lv_iload_n hx hb dL_law_598 rfl (lv_at hl 0 rfl) ?_
  refine lv_iconst (v := 1) hx hb dL_law_599 (by decide) ?_
  refine lv_iadd hx hb dL_law_600 ?_
  refine va_sld hx hb hX hbl hbA hS h1 dL_law_601 ?_
  refine lv_aload_n hx hb dL_law_602 rfl (lv_at hl 3 rfl) ?_
  refine lv_iload_n hx hb dL_law_603 rfl (lv_at hl 0 rfl) ?_
  refine lv_iconst (v := 2) hx hb dL_law_604 (by decide) ?_
  refine lv_iadd hx hb dL_law_605 ?_
  refine va_sld hx hb hX hbl hbA hS h2 dL_law_606 ?_
  refine lv_aload_n hx hb dL_law_607 rfl (lv_at hl 3 rfl) ?_
  refine lv_iload_n hx hb dL_law_608 rfl (lv_at hl 0 rfl) ?_
  refine lv_iconst (v := 3) hx hb dL_law_609 (by decide) ?_
  refine lv_iadd hx hb dL_law_610 ?_
  refine va_sld hx hb hX hbl hbA hS h3 dL_law_611 ?_
  refine W.eq (g2 := F0 m 612 ls ((([bb_I (xs (nI i + 1).toNatClampNeg), bb_I (xs (nI i + 2).toNatClampNeg), bb_I (xs (nI i + 3).toNatClampNeg)] : List bb_V).map (bb_cv ad)).reverse ++ .ref (ad 7 0) :: [.int v])) rfl ?_
  refine bb_virt (own := "BeachBarsLaw") (Ts := lw_tbl) (y := 81) (k := 7) (i := 0) (as := [bb_I (xs (nI i + 1).toNatClampNeg), bb_I (xs (nI i + 2).toNatClampNeg), bb_I (xs (nI i + 3).toNatClampNeg)]) (st := [.int v]) (M := M1) (M' := M2) (r := some (bb_I v)) hx hb hown hts hK hst (bz_CS l hAd) bz_TB hc hs dL_law_612 (List.mem_of_getElem? (i := 881) (by decide +kernel)) mV_81 rfl (Nat.le_of_ble_eq_true rfl) rfl (List.forall_mem_cons.mpr ⟨trivial, List.forall_mem_cons.mpr ⟨trivial, List.forall_mem_cons.mpr ⟨trivial, fun _ h => absurd h List.not_mem_nil⟩⟩⟩) (by decide) e2 hla hW hS (fun H locs _ hW hS => ?_)
  refine W.eq (g2 := F0 m 615 ls [.int v, .int v]) rfl ?_
  refine lv_icmp_eq (tgt := 676) hx hb dL_law_615 (by decide) (fun _ => ?_) (fun z9 => absurd rfl z9)
  exact kk H locs M2 hW hJ2 hS
set_option maxHeartbeats 4000000 in
set_option maxRecDepth 100000 in
theorem bz_18 (C : bz_E p s m c D ad aI aC aS b L xs) (hL : L ≤ 2048) (hi : i + 4 ≤ L) (hl : lv_has ls 4 (bz_lv ad b i)) (hc : cells ≤ room_1.cells) (hs : slots ≤ room_1.slots) (hW : bb_W D ad aI aC aS M H) (hJ : bb_JJ M) (hS : va_S (bb_A s.heap.size) s.heap H locs) (kk : bz_Kt p l e s m below meth c D ad aI aC aS b cells slots ls) : W p l e room_1 s m #[Value.ref b] below meth c H locs cells slots (lw_Z below #[Value.ref b] s) (F0 m 620 ls []) := by
  obtain ⟨hx, hb, hml, hown, hts, ⟨hX, hbl⟩, hK, hst, hAd⟩ := C
  have hbA : ¬ bb_A s.heap.size b := Nat.not_le.mpr hbl
  have hla : ls.size = c.maxLocals := hl.1.trans hml.symm
  have h1 : vp_in (nI i + 1) L := by rw [show (1 : Int32) = nI 1 from rfl, nI_add]; exact vp_in_nI (by omega) (by omega)
  have h2 : vp_in (nI i + 2) L := by rw [show (2 : Int32) = nI 2 from rfl, nI_add]; exact vp_in_nI (by omega) (by omega)
  obtain ⟨v, M1, M2, e1, e2, hJ2⟩ := b_sand (x := xs (nI i + 1).toNatClampNeg) (y := xs (nI i + 2).toNatClampNeg) hJ
  refine lv_aload_n hx hb dL_law_620 rfl (lv_at hl 2 rfl) ?_
  refine lv_aload_n hx hb dL_law_621 rfl (lv_at hl 3 rfl) ?_
  refine lv_iload_n hx hb dL_law_622 rfl (lv_at hl 0 rfl) ?_
  refine lv_iconst (v := 1) hx hb dL_law_623 (by decide) ?_
  refine lv_iadd hx hb dL_law_624 ?_
  refine va_sld hx hb hX hbl hbA hS h1 dL_law_625 ?_
  refine lv_aload_n hx hb dL_law_626 rfl (lv_at hl 3 rfl) ?_
  refine lv_iload_n hx hb dL_law_627 rfl (lv_at hl 0 rfl) ?_
  refine lv_iconst (v := 2) hx hb dL_law_628 (by decide) ?_
  refine lv_iadd hx hb dL_law_629 ?_
  refine va_sld hx hb hX hbl hbA hS h2 dL_law_630 ?_
  refine W.eq (g2 := F0 m 631 ls ((([bb_I (xs (nI i + 1).toNatClampNeg), bb_I (xs (nI i + 2).toNatClampNeg)] : List bb_V).map (bb_cv ad)).reverse ++ .ref (ad 6 0) :: [])) rfl ?_
  refine bb_virt (own := "BeachBarsLaw") (Ts := lw_tbl) (y := 20) (k := 6) (i := 0) (as := [bb_I (xs (nI i + 1).toNatClampNeg), bb_I (xs (nI i + 2).toNatClampNeg)]) (st := []) (M := M) (M' := M1) (r := some (bb_I v)) hx hb hown hts hK hst (bz_CS l hAd) bz_TB hc hs dL_law_631 (List.mem_of_getElem? (i := 595) (by decide +kernel)) mV_20 rfl (Nat.le_of_ble_eq_true rfl) rfl (List.forall_mem_cons.mpr ⟨trivial, List.forall_mem_cons.mpr ⟨trivial, fun _ h => absurd h List.not_mem_nil⟩⟩) (by decide) e1 hla hW hS (fun H locs _ hW hS => ?_)
  refine W.eq (g2 := F0 m 634 ls [.int v]) rfl ?_
  refine lv_aload_n hx hb dL_law_634 rfl (lv_at hl 1 rfl) ?_
  refine lv_aload_n hx hb dL_law_635 rfl (lv_at hl 3 rfl) ?_
  refine lv_iload_n hx hb dL_law_636 rfl (lv_at hl 0 rfl) ?_
  refine lv_iconst (v := 1) hx hb dL_law_637 (by decide) ?_
  refine lv_iadd hx hb dL_law_638 ?_
  refine va_sld hx hb hX hbl hbA hS h1 dL_law_639 ?_
  refine lv_aload_n hx hb dL_law_640 rfl (lv_at hl 3 rfl) ?_
  refine lv_iload_n hx hb dL_law_641 rfl (lv_at hl 0 rfl) ?_
  refine lv_iconst (v := 2) hx hb dL_law_642 (by decide) ?_
  refine lv_iadd hx hb dL_law_643 ?_
  refine va_sld hx hb hX hbl hbA hS h2 dL_law_644 ?_
  refine W.eq (g2 := F0 m 645 ls ((([bb_I (xs (nI i + 1).toNatClampNeg), bb_I (xs (nI i + 2).toNatClampNeg)] : List bb_V).map (bb_cv ad)).reverse ++ .ref (ad 7 0) :: [.int v])) rfl ?_
  refine bb_virt (own := "BeachBarsLaw") (Ts := lw_tbl) (y := 82) (k := 7) (i := 0) (as := [bb_I (xs (nI i + 1).toNatClampNeg), bb_I (xs (nI i + 2).toNatClampNeg)]) (st := [.int v]) (M := M1) (M' := M2) (r := some (bb_I v)) hx hb hown hts hK hst (bz_CS l hAd) bz_TB hc hs dL_law_645 (List.mem_of_getElem? (i := 885) (by decide +kernel)) mV_82 rfl (Nat.le_of_ble_eq_true rfl) rfl (List.forall_mem_cons.mpr ⟨trivial, List.forall_mem_cons.mpr ⟨trivial, fun _ h => absurd h List.not_mem_nil⟩⟩) (by decide) e2 hla hW hS (fun H locs _ hW hS => ?_)
  refine W.eq (g2 := F0 m 648 ls [.int v, .int v]) rfl ?_
  refine lv_icmp_eq (tgt := 676) hx hb dL_law_648 (by decide) (fun _ => ?_) (fun z9 => absurd rfl z9)
  exact kk H locs M2 hW hJ2 hS
set_option maxHeartbeats 4000000 in
set_option maxRecDepth 100000 in
theorem bz_19 (C : bz_E p s m c D ad aI aC aS b L xs) (hL : L ≤ 2048) (hi : i + 4 ≤ L) (hl : lv_has ls 4 (bz_lv ad b i)) (hc : cells ≤ room_1.cells) (hs : slots ≤ room_1.slots) (hW : bb_W D ad aI aC aS M H) (hJ : bb_JJ M) (hS : va_S (bb_A s.heap.size) s.heap H locs) (kk : bz_Kt p l e s m below meth c D ad aI aC aS b cells slots ls) : W p l e room_1 s m #[Value.ref b] below meth c H locs cells slots (lw_Z below #[Value.ref b] s) (F0 m 653 ls []) := by
  obtain ⟨hx, hb, hml, hown, hts, ⟨hX, hbl⟩, hK, hst, hAd⟩ := C
  have hbA : ¬ bb_A s.heap.size b := Nat.not_le.mpr hbl
  have hla : ls.size = c.maxLocals := hl.1.trans hml.symm
  have h1 : vp_in (nI i + 1) L := by rw [show (1 : Int32) = nI 1 from rfl, nI_add]; exact vp_in_nI (by omega) (by omega)
  obtain ⟨v, M1, M2, e1, e2, hJ2⟩ := b_count (x := xs (nI i + 1).toNatClampNeg) hJ
  refine lv_aload_n hx hb dL_law_653 rfl (lv_at hl 2 rfl) ?_
  refine lv_aload_n hx hb dL_law_654 rfl (lv_at hl 3 rfl) ?_
  refine lv_iload_n hx hb dL_law_655 rfl (lv_at hl 0 rfl) ?_
  refine lv_iconst (v := 1) hx hb dL_law_656 (by decide) ?_
  refine lv_iadd hx hb dL_law_657 ?_
  refine va_sld hx hb hX hbl hbA hS h1 dL_law_658 ?_
  refine W.eq (g2 := F0 m 659 ls ((([bb_I (xs (nI i + 1).toNatClampNeg)] : List bb_V).map (bb_cv ad)).reverse ++ .ref (ad 6 0) :: [])) rfl ?_
  refine bb_virt (own := "BeachBarsLaw") (Ts := lw_tbl) (y := 21) (k := 6) (i := 0) (as := [bb_I (xs (nI i + 1).toNatClampNeg)]) (st := []) (M := M) (M' := M1) (r := some (bb_I v)) hx hb hown hts hK hst (bz_CS l hAd) bz_TB hc hs dL_law_659 (List.mem_of_getElem? (i := 600) (by decide +kernel)) mV_21 rfl (Nat.le_of_ble_eq_true rfl) rfl (List.forall_mem_cons.mpr ⟨trivial, fun _ h => absurd h List.not_mem_nil⟩) (by decide) e1 hla hW hS (fun H locs _ hW hS => ?_)
  refine W.eq (g2 := F0 m 662 ls [.int v]) rfl ?_
  refine lv_aload_n hx hb dL_law_662 rfl (lv_at hl 1 rfl) ?_
  refine lv_aload_n hx hb dL_law_663 rfl (lv_at hl 3 rfl) ?_
  refine lv_iload_n hx hb dL_law_664 rfl (lv_at hl 0 rfl) ?_
  refine lv_iconst (v := 1) hx hb dL_law_665 (by decide) ?_
  refine lv_iadd hx hb dL_law_666 ?_
  refine va_sld hx hb hX hbl hbA hS h1 dL_law_667 ?_
  refine W.eq (g2 := F0 m 668 ls ((([bb_I (xs (nI i + 1).toNatClampNeg)] : List bb_V).map (bb_cv ad)).reverse ++ .ref (ad 7 0) :: [.int v])) rfl ?_
  refine bb_virt (own := "BeachBarsLaw") (Ts := lw_tbl) (y := 85) (k := 7) (i := 0) (as := [bb_I (xs (nI i + 1).toNatClampNeg)]) (st := [.int v]) (M := M1) (M' := M2) (r := some (bb_I v)) hx hb hown hts hK hst (bz_CS l hAd) bz_TB hc hs dL_law_668 (List.mem_of_getElem? (i := 889) (by decide +kernel)) mV_85 rfl (Nat.le_of_ble_eq_true rfl) rfl (List.forall_mem_cons.mpr ⟨trivial, fun _ h => absurd h List.not_mem_nil⟩) (by decide) e2 hla hW hS (fun H locs _ hW hS => ?_)
  refine W.eq (g2 := F0 m 671 ls [.int v, .int v]) rfl ?_
  refine lv_icmp_eq (tgt := 676) hx hb dL_law_671 (by decide) (fun _ => ?_) (fun z9 => absurd rfl z9)
  exact kk H locs M2 hW hJ2 hS
end LZ
