/-! THE CONSTRUCTORS: what they stand on -/
def bk_A (bs : Nat) : Nat → Prop := fun q => bs ≤ q
def bk_ws (y : MethodName) (cc : ByteArray) (n : Nat) (ret : Option FieldType) : List Cond := .code y cc n ret :: bb_TB
theorem bk_good {Ts : List Cond} {y : MethodName} {cc : ByteArray} {n : Nat} {ret : Option FieldType} (h : ∀ w ∈ bb_TB, w ∈ Ts) (hc : Cond.code y cc n ret ∈ bb_TB) : GoodIn Ts (bk_ws y cc n ret) := by
  intro w hw
  have hm : w ∈ bb_TB := by
    rcases List.mem_cons.mp hw with rfl | h1
    · exact hc
    · exact h1
  exact ⟨h w hm, good_of_word (List.mem_filter.mp hm).2⟩
def bk_rm (d mc ms : Nat) : Room := { frames := d, cells := mc, slots := ms, locals := 36 * d }
def bk_n1 : Cond := .fieldLinkNest RX4 39 "BeachBars" "FIRST_SETTING" "[I" "BeachBars"
def bk_n2 : Cond := .methodLinkNest RX3 18 yX6_firstHeight "BeachBars"
/-- what every constructor may take as given -/
def bk_E (D : va_G) (bs : Nat) (aI aC aS : ClassId) (b3 : Nat) (U : State) : Prop := va_K D bb_cls (bb_tys aI aC aS) U ∧ (va_T .int b3 4 (fun j => .int (bb_cst 32 j)) (bk_A bs) U U.heap ∧ b3 < bs ∧ bs ≤ U.heap.size) ∧ va_Z "BeachBars" "FIRST_SETTING" "[I" (.ref b3) (bk_A bs) U U.heap ∧ (va_Nw bk_n1 U ∧ va_Nw bk_n2 U) ∧ va_AO "BeachBars$State" U
theorem bk_E.at {D : va_G} {bs b3 : Nat} {aI aC aS : ClassId} {A : Nat → Prop} {s U : State} {H : Heap} {locs : List Loc} (h : bk_E D bs aI aC aS b3 s) (hS : va_S A s.heap H locs) (hA : ∀ q, A q → bs ≤ q) (hU : U.heap = H) (hwm : s.WarmedH U.vm) : bk_E D bs aI aC aS b3 U := by
  obtain ⟨h1, ⟨h2, h3, h4⟩, h5, ⟨h6, h7⟩, h8⟩ := h
  have hk : ∀ a : Nat, a < s.heap.size → ¬ bk_A bs a → U.heap[a]? = s.heap[a]? := fun a g1 g2 => by rw [hU]; exact hS.2.1 a g1 (fun z => g2 (hA a z))
  exact ⟨h1.moved hwm.alike, ⟨(h2.moved hwm.alike).kept hk, h3, Nat.le_trans h4 (by rw [hU]; exact hS.1)⟩, (h5.moved hwm.alike).kept hk, ⟨va_Nw.warmF hwm h6, va_Nw.warmM hwm h7⟩, va_AO.moved hwm.alike h8⟩
theorem bk_E.calling {D : va_G} {bs b3 : Nat} {aI aC aS : ClassId} {U : State} {g : JFrame} {mk : MethodId} {a : Array Value} (h : bk_E D bs aI aC aS b3 U) : bk_E D bs aI aC aS b3 (U.calling g mk a) := by
  obtain ⟨h1, ⟨h2, h3, h4⟩, h5, ⟨h6, h7⟩, h8⟩ := h
  exact ⟨va_K.moved (u := U) (U := U.calling g mk a) (Vm.Alike.refl U.vm) h1, ⟨va_T.moved (u := U) (U := U.calling g mk a) (Vm.Alike.refl U.vm) h2, h3, h4⟩, va_Z.moved (u := U) (U := U.calling g mk a) (Vm.Alike.refl U.vm) h5, ⟨va_Nw.same (u := U) (U := U.calling g mk a) rfl rfl h6, va_Nw.same (u := U) (U := U.calling g mk a) rfl rfl h7⟩, va_AO.moved (u := U) (U := U.calling g mk a) (Vm.Alike.refl U.vm) h8⟩
/-- addresses of what a constructor makes -/
abbrev bk_U : Type := Nat → Nat → Nat
def bk_Pc (D : va_G) (bs : Nat) (aI aC aS : ClassId) (b3 h0 sz : Nat) (e : va_E) : Array Value → State → Prop := va_Pc [.ref h0] (fun U => U.heap.size = sz ∧ va_P D bb_cls [(h0, e)] U.heap ∧ bk_E D bs aI aC aS b3 U)
theorem bk_blind {D : va_G} {bs b3 h0 sz : Nat} {aI aC aS : ClassId} {e : va_E} : FrameBlind (bk_Pc D bs aI aC aS b3 h0 sz e) := by
  intro a U g mk q
  obtain ⟨e, q1, q2, q3⟩ := q
  exact ⟨e, q1, q2, q3.calling⟩
def bk_Qc (D : va_G) (h0 sz : Nat) (e : va_E) (X : Nat → bk_U → va_W) : Array Value → State → Outcome → State → Prop := va_Qv (fun _ : bk_U => True) (fun u t => va_P D bb_cls (X h0 u) t.heap ∧ va_D (va_A [(h0, e)] sz) (X h0 u)) (va_A [(h0, e)] sz)
/-- a constructor's contract -/
def bk_Mt (l : Launch) (D : va_G) (bs : Nat) (aI aC aS : ClassId) (b3 : Nat) (y : MethodName) (cc : ByteArray) (n d mc ms : Nat) (e : va_E) (X : Nat → bk_U → va_W) : Prop := ∀ (h0 sz : Nat), bs ≤ h0 → Met l y (bk_ws y cc n none) (bk_rm d mc ms) (bk_Pc D bs aI aC aS b3 h0 sz e) (bk_Qc D h0 sz e X) mc ms (va_A [(h0, e)] sz)
def bk_Cx (p : Program) (s : State) (m : MethodId) (args : Array Value) (c : Code) (meth : Method) (D : va_G) (bs : Nat) (aI aC aS : ClassId) (b3 : Nat) (cc : ByteArray) (own : String) : Prop := p.tables.exec = Jvm.exec ∧ c.code = cc ∧ s.vm.findClass own = some m.cls ∧ (∀ w ∈ bb_TB, w.before args s = true) ∧ bk_E D bs aI aC aS b3 s ∧ meth.name = "<init>"
theorem bk_A1 {bs h0 sz : Nat} {e : va_E} (h1 : bs ≤ h0) (h2 : bs ≤ sz) : ∀ q, va_A [(h0, e)] sz q → bs ≤ q := by
  intro q hq
  rcases hq with ⟨k, e', h⟩ | h
  · have hk : k < 1 := (List.getElem?_eq_some_iff.mp h).1
    obtain rfl : k = 0 := by omega
    cases h
    exact h1
  · exact Nat.le_trans h2 h
theorem bk_D1 {h0 sz : Nat} {e : va_E} : va_D (va_A [(h0, e)] sz) [(h0, e)] := by
  refine ⟨fun i j p q hi hj _ => ?_, fun k q hk => ?_⟩
  · have h1 : i < 1 := (List.getElem?_eq_some_iff.mp hi).1
    have h2 : j < 1 := (List.getElem?_eq_some_iff.mp hj).1
    omega
  · exact va_A.in hk
theorem bk_of (l : Launch) {D : va_G} {bs b3 : Nat} {aI aC aS : ClassId} {y : MethodName} {cc : ByteArray} {n d mc ms : Nat} {e : va_E} {X : Nat → bk_U → va_W} (hy : plainName y.cls = true) (hn : 1 ≤ n) (hyn : y.name = "<init>")
    (body : ∀ (p : Program) (ev : Env) (s : State) (m : MethodId) (below : List Frame) (meth : Method) (c : Code) (h0 : Nat) (ls : Array Slot), bk_Cx p s m #[.ref h0] c meth D bs aI aC aS b3 cc y.cls → meth.sig.returnType = none → meth.locks = false → c.maxLocals = n → bs ≤ h0 → lv_has ls n [(0, .ref h0)] → va_P D bb_cls [(h0, e)] s.heap →
      W p l ev (bk_rm d mc ms) s m #[.ref h0] below meth c s.heap [] 0 0 (MQ below (bk_Qc D h0 s.heap.size e X) #[.ref h0] s mc ms (va_A [(h0, e)] s.heap.size)) (F0 m 0 ls [])) : bk_Mt l D bs aI aC aS b3 y cc n d mc ms e X := by
  intro h0 sz hb0
  refine Met.ofW (cc := cc) (maxL := n) (ret := none) hy rfl ?_
  intro p ev s m args below meth c s₁ B hml hv
  obtain ⟨rfl, hsz, hP, hE⟩ := hv
  subst hsz
  have hts := atoms_spec (ws := bk_ws y cc n none) B.pre
  have hown : s.vm.findClass y.cls = some m.cls := findClass_of_methodNamed B.named
  have hin : meth.name = "<init>" := (name_of_methodNamed B.named B.method).1.trans hyn
  rw [lg_entry_eq]
  exact body p ev s m below meth c h0 _ ⟨B.exec, B.bytes, hown, fun w hw => hts w (List.mem_cons_of_mem _ hw), hE, hin⟩ B.returns B.notSynchronized hml hb0 (lv_entry ([.ref h0]) (n := n) hn) hP
theorem bk_pick {α : Type} {f : Nat → Option α} {is : List Nat} {L : List α} (h : is.map f = L.map some) : is.filterMap f = L := by
  have : is.filterMap f = (is.map f).filterMap id := by rw [List.filterMap_map]; rfl
  rw [this, h, List.filterMap_map]
  show L.filterMap (fun x => some x) = L
  rw [List.filterMap_some]
section BK
variable {p : Program} {l : Launch} {ev : Env} {R : Room} {s : State} {m : MethodId} {args : Array Value} {below : List Frame} {meth : Method} {c : Code} {D : va_G} {bs b3 : Nat} {aI aC aS : ClassId} {cc : ByteArray} {own : String} {H : Heap} {locs : List Loc} {cells slots : Nat} {Q : State → Prop} {pc : Nat} {ls : Array Slot} {rest : List Value} {A : Nat → Prop} {ws : va_W}
/-- the end -/
theorem bk_ret {h0 mc ms : Nat} {e : va_E} {X : Nat → bk_U → va_W} (hx : bk_Cx p s m #[.ref h0] c meth D bs aI aC aS b3 cc own) (hr : meth.sig.returnType = none) (hlocks : meth.locks = false) (u : bk_U) (hX : X h0 u = ws) (hP : va_P D bb_cls ws H) (hD : va_D (va_A [(h0, e)] s.heap.size) ws) (hS : va_S (va_A [(h0, e)] s.heap.size) s.heap H locs) (hdg : decode cc pc = .ok (.return_, 1)) : W p l ev R s m #[.ref h0] below meth c H locs mc ms (MQ below (bk_Qc D h0 s.heap.size e X) #[.ref h0] s mc ms (va_A [(h0, e)] s.heap.size)) (F0 m pc ls []) :=
  W.vret hx.1 hx.2.1 hr (fun t ht hW => ⟨⟨u, rfl, trivial, by rw [hX, ht]; exact hP, by rw [hX]; exact hD⟩, hS.F ht⟩) hS.2.2 hdg
/-- Object.<init> -/
theorem bk_obj {a idx : Nat} (hx : bk_Cx p s m args c meth D bs aI aC aS b3 cc own) (hl : Cond.methodLink own idx objectInit ∈ bb_TB) (hsize : ls.size = c.maxLocals) (hR : 1 ≤ R.frames ∧ 12 ≤ R.locals) (hd : decode cc pc = .ok (.invokespecial idx, 3)) (kk : W p l ev R s m args below meth c H locs cells slots Q (F0 m (pc + 3) ls [])) : W p l ev R s m args below meth c H locs cells slots Q (F0 m pc ls [.ref a]) :=
  W.objInit hx.1 hx.2.1 hx.2.2.1 (hx.2.2.2.1 _ hl) (hx.2.2.2.1 _ (bb_tb (i := 30) (by decide +kernel) rfl)) (hx.2.2.2.1 _ (bb_tb (i := 31) (by decide +kernel) rfl)) rfl hsize rfl hd hR.1 (by show 2 * 0 + 0 + 12 ≤ R.locals; omega) (W.eq (g2 := F0 m (pc + 3) ls []) rfl kk)
/-- a row of ints -/
theorem bk_newi {n : Int32} {N : Nat} (hx : bk_Cx p s m args c meth D bs aI aC aS b3 cc own) (hP : va_P D bb_cls ws H) (hD : va_D A ws) (hS : va_S A s.heap H locs) (hA : ∀ q, s.heap.size ≤ q → A q) (hn : ¬ n < 0) (hN : n.toNatClampNeg = N) (hb : N * 4 ≤ 536870912) (hc : cells + 1 ≤ R.cells) (hs : slots + N ≤ R.slots) (hd : decode cc pc = .ok (.newarray .int, 2))
    (kk : ∀ (q : Nat) (H1 : Heap), va_P D bb_cls (ws ++ [(q, .inl (aI, N, .inl (fun _ => 0)))]) H1 → va_D A (ws ++ [(q, .inl (aI, N, .inl (fun _ => 0)))]) → va_S A s.heap H1 locs → W p l ev R s m args below meth c H1 locs (cells + 1) (slots + N) Q (F0 m (pc + 2) ls (.ref q :: rest))) : W p l ev R s m args below meth c H locs cells slots Q (F0 m pc ls (.int n :: rest)) := by
  have hK := hx.2.2.2.2.1.1
  refine va_newa (ty := .int) (a0 := (N, .inl (fun _ => 0))) hx.1 hx.2.1 (hx.2.2.2.1 _ (bb_tb (i := 54) (by decide +kernel) rfl)) rfl hK hP hD hS hA (fun _ => rfl) hn hN hb hc hs hd (fun q cA H1 hK1 hP1 hD1 hS1 => ?_)
  have e1 : s.vm.findClass _ = some aI := (hK.2 0 (aI, .int) rfl).2
  have e2 : s.vm.findClass _ = some cA := (hK1.2 3 (cA, .int) rfl).2
  obtain rfl : cA = aI := Option.some.inj (e2.symm.trans e1)
  exact kk q H1 hP1 hD1 hS1
theorem bk_newc {n : Int32} {N : Nat} (hx : bk_Cx p s m args c meth D bs aI aC aS b3 cc own) (hP : va_P D bb_cls ws H) (hD : va_D A ws) (hS : va_S A s.heap H locs) (hA : ∀ q, s.heap.size ≤ q → A q) (hn : ¬ n < 0) (hN : n.toNatClampNeg = N) (hb : N * 2 ≤ 536870912) (hc : cells + 1 ≤ R.cells) (hs : slots + N ≤ R.slots) (hd : decode cc pc = .ok (.newarray .char, 2))
    (kk : ∀ (q : Nat) (H1 : Heap), va_P D bb_cls (ws ++ [(q, .inl (aC, N, .inl (fun _ => 0)))]) H1 → va_D A (ws ++ [(q, .inl (aC, N, .inl (fun _ => 0)))]) → va_S A s.heap H1 locs → W p l ev R s m args below meth c H1 locs (cells + 1) (slots + N) Q (F0 m (pc + 2) ls (.ref q :: rest))) : W p l ev R s m args below meth c H locs cells slots Q (F0 m pc ls (.int n :: rest)) := by
  have hK := hx.2.2.2.2.1.1
  refine va_newa (ty := .char) (a0 := (N, .inl (fun _ => 0))) hx.1 hx.2.1 (hx.2.2.2.1 _ (bb_tb (i := 150) (by decide +kernel) rfl)) rfl hK hP hD hS hA (fun _ => rfl) hn hN hb hc hs hd (fun q cA H1 hK1 hP1 hD1 hS1 => ?_)
  have e1 : s.vm.findClass _ = some aC := (hK.2 1 (aC, .char) rfl).2
  have e2 : s.vm.findClass _ = some cA := (hK1.2 3 (cA, .char) rfl).2
  obtain rfl : cA = aC := Option.some.inj (e2.symm.trans e1)
  exact kk q H1 hP1 hD1 hS1
theorem bk_newS {n : Int32} {N idx : Nat} (hx : bk_Cx p s m args c meth D bs aI aC aS b3 cc own) (hl : Cond.classLink own idx "BeachBars$State" ∈ bb_TB) (hP : va_P D bb_cls ws H) (hD : va_D A ws) (hS : va_S A s.heap H locs) (hA : ∀ q, s.heap.size ≤ q → A q) (hn : ¬ n < 0) (hN : n.toNatClampNeg = N) (hb : N * 4 ≤ 536870912) (hc : cells + 1 ≤ R.cells) (hs : slots + N ≤ R.slots) (hd : decode cc pc = .ok (.anewarray idx, 3))
    (kk : ∀ (q : Nat) (H1 : Heap), va_P D bb_cls (ws ++ [(q, .inl (aS, N, .inr (.inr (.inr (.inr (fun _ => none))))))]) H1 → va_D A (ws ++ [(q, .inl (aS, N, .inr (.inr (.inr (.inr (fun _ => none))))))]) → va_S A s.heap H1 locs → W p l ev R s m args below meth c H1 locs (cells + 1) (slots + N) Q (F0 m (pc + 3) ls (.ref q :: rest))) : W p l ev R s m args below meth c H locs cells slots Q (F0 m pc ls (.int n :: rest)) := by
  have hK := hx.2.2.2.2.1.1
  refine va_newq hx.1 hx.2.1 hx.2.2.1 (hx.2.2.2.1 _ hl) hx.2.2.2.2.1.2.2.2.2 hK hP hD hS hA hn hN hb hc hs hd (fun q cA H1 hK1 hP1 hD1 hS1 => ?_)
  obtain ⟨-, -, -, -, -, e1⟩ := (hK.2 2 (aS, .object "BeachBars$State") rfl).2
  obtain ⟨-, -, -, -, -, e2⟩ := (hK1.2 3 (cA, .object "BeachBars$State") rfl).2
  obtain rfl : cA = aS := Option.some.inj (e2.symm.trans e1)
  exact kk q H1 hP1 hD1 hS1
/-- a copy out of a row of ints that nobody writes -/
theorem bk_copyT (hexec : p.tables.exec = Jvm.exec) (hb : c.code = cc) (hml : c.maxLocals = ls.size) {index : Nat} (hown : s.vm.findClass own = some m.cls) (hlink : (Cond.methodLink own index arraycopyName).before args s = true) (hnat : (Cond.native arraycopyName).before args s = true) (hstat : (Cond.static arraycopyName).before args s = true) (hini : (Cond.initialized "java/lang/System").before args s = true) (hK : va_K D bb_cls (bb_tys aI aC aS) s) (hP : va_P D bb_cls ws H) (hD : va_D A ws) (hS : va_S A s.heap H locs) {b0 n0 N a : Nat} {f g : Nat → Int32} (hT : va_T .int b0 n0 (fun j => .int (f j)) A s s.heap) (q1 : Nat) {n1 : Nat} (ha1 : ws[q1]? = some (a, .inl (aI, n1, .inl g))) {n : Int32} (h3 : ¬ n < 0) (hN : n.toNatClampNeg = N) (h4 : N ≤ n0) (h5 : N ≤ n1)
    (hframes : 1 ≤ R.frames) (hlocals : (rest.map fun v => v.category).sum + (nativeFrameWords "java/lang/System" "arraycopy" 5 + 11) ≤ R.locals) (hdg : decode cc pc = .ok (.invokestatic index, 3))
    (kk : ∀ (H1 : Heap) (locs1 : List Loc), va_P D bb_cls (ws.set q1 (a, .inl (aI, n1, .inl (va_cpy f g 0 0 N)))) H1 → va_D A (ws.set q1 (a, .inl (aI, n1, .inl (va_cpy f g 0 0 N)))) → va_S A s.heap H1 locs1 → W p l ev R s m args below meth c H1 locs1 cells slots Q (F0 m (pc + 3) ls rest)) : W p l ev R s m args below meth c H locs cells slots Q (F0 m pc ls (.int n :: .int 0 :: .ref a :: .int 0 :: .ref b0 :: rest)) := by
  intro T hTh X
  obtain ⟨scr, e1, ⟨e2, k0, hk0, cm0, hkk0⟩, e3, e4, -, e5, e6⟩ := hT
  have hn : n.toInt = (N : Int) := by
    have hz0 : (0 : Int) ≤ n.toInt := by
      have := Int32.le_iff_toInt_le.mp (Int32.not_lt.mp h3)
      simpa using this
    have hc : n.toInt.toNat = N := hN
    omega
  have z0 : (0 : Int32).toInt = 0 := rfl
  have zn : (0 : Int32).toNatClampNeg = 0 := rfl
  have hc0 : H[b0]? = some scr := (hS.2.1 b0 (Array.getElem?_eq_some_iff.mp e1).1 e6).trans e1
  have hc1 : H[a]? = some (vp_cell aI (n1, .inl g)) := hP q1 _ ha1
  have hs1 : (vp_cell aI (n1, .inl g)).slots.size = n1 := arrV_size _ _ _
  have hl : a < H.size := (Array.getElem?_eq_some_iff.mp hc1).1
  obtain ⟨-, k1, hk1, cm1, hkk1⟩ := (hK.2 0 (aI, .int) rfl).1 n1 (fun j => .int (g j))
  obtain ⟨vm', X', step⟩ := X.arraycopy hexec hown hlink hnat hstat hini (src := b0) (dst := a) (cs := scr) (cd := vp_cell aI (n1, .inl g)) (srcPos := 0) (destPos := 0) (n := n) (by rw [hTh]; exact hc0) (by rw [hTh]; exact hc1) e2 (fun _ h => by cases h) e3 (fun h => by cases h) hk0 hk1 hkk0 hkk1 (by simp [refKind]) (by decide) (by decide) h3 (by rw [z0, hn]; omega) (by rw [z0, hn, hs1]; omega)
    (fun _ _ i hi => by
      rw [hN] at hi
      have e : scr.slots.getD ((0 : Int32).toNatClampNeg + i) .null = .int (f i) := by
        rw [zn, Nat.zero_add, Array.getD_eq_getD_getElem?, e5 _ (by omega)]
        rfl
      rw [e]
      exact ⟨rfl, trivial⟩)
    (g := F0 m pc ls (.int n :: .int 0 :: .ref a :: .int 0 :: .ref b0 :: rest)) rfl hml.symm (rest := rest) rfl (by rw [hb]; exact hdg) hframes (by show 2 * 0 + _ + _ ≤ _; omega)
  have ec : copied scr (vp_cell aI (n1, .inl g)) 0 0 n = vp_cell aI (n1, .inl (va_cpy f g 0 0 N)) := by
    have := va_copiedX (fun z => .int z) scr aI (n1 := n1) (sp := 0) (dp := 0) (n := N) f g e5 (by omega)
    rw [← hN] at this ⊢
    exact this
  rw [ec] at X' step
  generalize hv : vp_cell aI (n1, .inl (va_cpy f g 0 0 N)) = v at X' step
  have oq : ∀ q : Nat, q ≠ a → (H.setIfInBounds a v)[q]? = H[q]? := fun q hq => by simp [Array.getElem?_setIfInBounds, Ne.symm hq]
  have ha : (H.setIfInBounds a v)[a]? = some (vp_cell aI (n1, .inl (va_cpy f g 0 0 N))) := by rw [hv]; simp [Array.getElem?_setIfInBounds, hl]
  have hAa : A a := hD.2 q1 _ ha1
  obtain ⟨t, a1, b1⟩ := kk (H.setIfInBounds a v) _ (hP.set hD ha1 ha oq) (hD.set ha1) ⟨by rw [Array.size_setIfInBounds]; exact hS.1, fun q g1 g2 => (oq q (fun e => g2 (by rw [e]; exact hAa))).trans (hS.2.1 q g1 g2), fun q hq => by
    rcases List.mem_append.mp hq with h | h
    · exact hS.2.2 q h
    · obtain ⟨z, -, hz⟩ := List.mem_map.mp h
      rw [← hz]
      exact hAa⟩ _ (by rw [← hTh]; rfl) X'
  exact ⟨t, step t a1, b1⟩
theorem bk_range_in (wr : va_W) (q : Nat × va_E) : (List.range wr.length).map (fun i => (wr ++ [q])[i]?) = wr.map some := by
  apply List.ext_getElem?
  intro i
  rw [List.getElem?_map, List.getElem?_map]
  by_cases h : i < wr.length
  · rw [List.getElem?_range h, List.getElem?_eq_getElem h]
    show some ((wr ++ [q])[i]?) = _
    rw [List.getElem?_append_left h, List.getElem?_eq_getElem h]
    rfl
  · rw [List.getElem?_eq_none (by rw [List.length_range]; omega), List.getElem?_eq_none (by omega)]
    rfl
theorem bk_nd_of : ∀ (L : List Nat), L.Nodup → va_nd L = true
  | [], _ => rfl
  | a :: L, h => by
    obtain ⟨h1, h2⟩ := List.nodup_cons.mp h
    show (decide (a ∉ L) && va_nd L) = true
    rw [decide_eq_true h1, bk_nd_of L h2]
    rfl
/-- a constructor is called on what was just made -/
theorem bk_ini {y : MethodName} {ycc : ByteArray} {n d mc ms idx q : Nat} {e : va_E} {X : Nat → bk_U → va_W} {wr : va_W} (hx : bk_Cx p s m args c meth D bs aI aC aS b3 cc own) (hAb : ∀ q, A q → bs ≤ q) (hA : ∀ q, s.heap.size ≤ q → A q) (hM : bk_Mt l D bs aI aC aS b3 y ycc n d mc ms e X) (hyn : y.name = "<init>") (hyc : y.cls ≠ "java/lang/invoke/MethodHandle" ∧ y.cls ≠ "java/lang/invoke/VarHandle" ∧ (parseMethodDescriptor y.desc).map (fun d => d.parameters.length) = some 0) (w1 : Cond.code y ycc n none ∈ bb_TB) (w2 : Cond.initialized y.cls ∈ bb_TB) (w3 : Cond.methodLink own idx y ∈ bb_TB) (w4 : Cond.instanceMethod y ∈ bb_TB) (hn : n ≤ 17) (hR : d + 1 ≤ R.frames ∧ 36 * d + 36 ≤ R.locals) (hc : cells + mc ≤ R.cells) (hs : slots + ms ≤ R.slots) (hls : ls.size = c.maxLocals) (hrest : (rest.map fun v => v.category).sum ≤ 8)
    (hP : va_P D bb_cls (wr ++ [(q, e)]) H) (hD : va_D A (wr ++ [(q, e)])) (hS : va_S A s.heap H locs) (hd : decode cc pc = .ok (.invokespecial idx, 3))
    (kk : ∀ (u : bk_U) (H1 : Heap) (locs1 : List Loc), va_P D bb_cls (wr ++ X q u) H1 → va_D A (wr ++ X q u) → va_S A s.heap H1 locs1 → W p l ev R s m args below meth c H1 locs1 (cells + mc) (slots + ms) Q (F0 m (pc + 3) ls rest)) : W p l ev R s m args below meth c H locs cells slots Q (F0 m pc ls (.ref q :: rest)) := by
  have hq : (wr ++ [(q, e)])[wr.length]? = some (q, e) := by rw [List.getElem?_append_right (Nat.le_refl _), Nat.sub_self]; rfl
  have hPc : va_P D bb_cls [(q, e)] H := fun k x hk => by
    have : k < 1 := (List.getElem?_eq_some_iff.mp hk).1
    obtain rfl : k = 0 := by omega
    cases hk
    exact hP _ _ hq
  have hC : [wr.length].map (fun i => (wr ++ [(q, e)])[i]?) = [(q, e)].map some := by
    show [(wr ++ [(q, e)])[wr.length]?] = _
    rw [hq]
    rfl
  have hFc := va_free (wc := [(q, e)]) hD hS hA [wr.length] hC
  have hbq : bs ≤ q := hAb _ (hD.2 _ _ hq)
  refine va_callv (va_runI (As := []) (rest := rest) ⟨hx.1, hx.2.1, rfl, hx.2.2.1, hx.2.2.2.1⟩ (hM q H.size hbq) (cwI 0 hx.2.2.2.1 (bk_good (fun _ h => h) w1) rfl rfl rfl (hx.2.2.2.1 _ w2) (hx.2.2.2.1 _ w3) (hx.2.2.2.1 _ w4) hyn hyc ⟨hR.1, by show 8 + (n + 11) + 36 * d ≤ R.locals; omega⟩) ⟨bk_blind, fun U hU hW => ⟨rfl, by rw [hU], by rw [hU]; exact hPc, hx.2.2.2.2.1.at hS hAb hU hW⟩⟩ rfl rfl hls rfl (lv_room hrest) hd ⟨hc, hs⟩) hS (fun q _ h => hFc q h) hFc (fun u t H1 locs ht hvm hw hB hz1 hk1 hS => ?_)
  obtain ⟨hP1, hD1⟩ := hB
  rw [ht] at hP1
  obtain ⟨hP2, hD2⟩ := va_join (wr := wr) (w1 := X q u) hP hD [wr.length] (List.range wr.length) hC (bk_range_in wr (q, e)) (bk_nd_of _ List.nodup_range) (fun i hi hm => by
    have h1 := List.mem_range.mp hi
    have h2 := List.mem_singleton.mp hm
    omega) hk1 hFc hP1 hD1
  exact kk u H1 locs hP2 hD2 hS
end BK
