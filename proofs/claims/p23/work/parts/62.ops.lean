/-! EACH OPERATION OF THE PURE MACHINE IS THE JVM'S -/
def bb_G (p : Program) (l : Launch) (e : Env) (R : Room) (s : State) (m : MethodId) (args : Array Value) (below : List Frame) (meth : Method) (c : Code) (D : va_G) (bs : Nat → Prop) (ad : Nat → Nat → Nat) (aI aC aS : ClassId) (Rp : bb_P) : bb_K := fun pc ls st M => (∀ v ∈ st, bb_ok v) → ∀ (H : Heap) (locs : List Loc) (la : Array Slot), bb_L c.maxLocals ad la ls → bb_W D ad aI aC aS M H → va_S (bb_A bs) s.heap H locs → W p l e R s m args below meth c H locs 0 0 (MQ below (bb_Q D ad aI aC aS bs Rp) args s 0 0 (bb_A bs)) (F0 m pc la (st.map (bb_cv ad)))
def bb_Cx (p : Program) (s : State) (m : MethodId) (args : Array Value) (c : Code) (D : va_G) (bs : Nat → Prop) (ad : Nat → Nat → Nat) (aI aC aS : ClassId) (cc : ByteArray) (own : String) (Ts : List Cond) : Prop := p.tables.exec = Jvm.exec ∧ c.code = cc ∧ s.vm.findClass own = some m.cls ∧ (∀ w ∈ Ts, w.before args s = true) ∧ va_K D bb_cls (bb_tys aI aC aS) s ∧ bb_Ad bs ad ∧ bb_sta D ad aI bs s
def bb_Snd (p : Program) (l : Launch) (e : Env) (R : Room) (s : State) (m : MethodId) (args : Array Value) (below : List Frame) (meth : Method) (c : Code) (D : va_G) (bs : Nat → Prop) (ad : Nat → Nat → Nat) (aI aC aS : ClassId) (Rp : bb_P) (C : bb_C) (pc : Nat) (o : bb_O) : Prop := ∀ (ls st : List bb_V) (M : bb_M), bb_do C Rp (bb_G p l e R s m args below meth c D bs ad aI aC aS Rp) (o ls st M) → bb_G p l e R s m args below meth c D bs ad aI aC aS Rp pc ls st M
theorem bb_okc {v : bb_V} {t : List bb_V} (h : bb_ok v) (ht : ∀ w ∈ t, bb_ok w) : ∀ w ∈ v :: t, bb_ok w := List.forall_mem_cons.mpr ⟨h, ht⟩
theorem bb_okt {v : bb_V} {t : List bb_V} (h : ∀ w ∈ v :: t, bb_ok w) : ∀ w ∈ t, bb_ok w := (List.forall_mem_cons.mp h).2
theorem bb_okh {v : bb_V} {t : List bb_V} (h : ∀ w ∈ v :: t, bb_ok w) : bb_ok v := (List.forall_mem_cons.mp h).1
theorem bb_wt_sum (ad : Nat → Nat → Nat) : ∀ st : List bb_V, ((st.map (bb_cv ad)).map fun v => v.category).sum = bb_wt st
  | [] => rfl
  | .inl x :: t => by
    rw [List.map_cons, List.map_cons, List.sum_cons, bb_wt_sum ad t]
    exact Nat.add_comm _ _
  | .inr (.inl x) :: t => by
    rw [List.map_cons, List.map_cons, List.sum_cons, bb_wt_sum ad t]
    exact Nat.add_comm _ _
  | .inr (.inr (.inl (k, i))) :: t => by
    rw [List.map_cons, List.map_cons, List.sum_cons, bb_wt_sum ad t]
    exact Nat.add_comm _ _
  | .inr (.inr (.inr ())) :: t => by
    rw [List.map_cons, List.map_cons, List.sum_cons, bb_wt_sum ad t]
    exact Nat.add_comm _ _
theorem bb_ia_f {k : Nat} (h : bb_ia k = true) : 10 ≤ k ∧ k < 33 ∧ k ≠ 17 ∧ k ≠ 20 := by
  unfold bb_ia at h
  split at h <;> first | (refine ⟨?_, ?_, ?_, ?_⟩ <;> decide) | cases h
theorem bb_ce_i {ad : Nat → Nat → Nat} {aI aC aS : ClassId} {M : bb_M} {k i : Nat} (h : bb_ia k = true) : bb_ce ad aI aC aS M k i = .inl (aI, bb_len k, .inl (M k i)) := by
  obtain ⟨h1, h2, h3, h4⟩ := bb_ia_f h
  unfold bb_ce
  rw [if_neg (by omega), if_neg h3, if_neg h4]
theorem bb_ce_o {ad : Nat → Nat → Nat} {aI aC aS : ClassId} {M : bb_M} {k i : Nat} (h : k < 8) : bb_ce ad aI aC aS M k i = .inr (k, bb_fls ad M k i 0 (bb_ft k)) := by
  unfold bb_ce
  rw [if_pos h]
theorem bb_up_o {M : bb_M} {k i j : Nat} {v : Int32} (k' i' : Nat) (h : (k', i') ≠ (k, i)) (j' : Nat) : bb_up M k i j v k' i' j' = M k' i' j' := by
  unfold bb_up
  rw [if_neg]
  rintro ⟨rfl, rfl, -⟩
  exact h rfl
theorem bb_up_a {M : bb_M} {k i j : Nat} {v : Int32} : bb_up M k i j v k i = upd (M k i) j v := by
  funext q
  unfold bb_up upd
  by_cases h : q = j
  · simp [h]
  · simp [h]
theorem bb_stc_up {M : bb_M} {k i j : Nat} {v : Int32} (h : bb_stc M) (hk : k < 30) : bb_stc (bb_up M k i j v) := by
  intro k' h1 h2 j' h3
  rw [bb_up_o]
  · exact h k' h1 h2 j' h3
  · intro e
    cases e
    omega
section SD
variable {p : Program} {l : Launch} {e : Env} {R : Room} {s : State} {m : MethodId} {args : Array Value} {below : List Frame} {meth : Method} {c : Code} {D : va_G} {bs : Nat → Prop} {ad : Nat → Nat → Nat} {aI aC aS : ClassId} {Rp : bb_P} {cc : ByteArray} {own : String} {Ts : List Cond} {C : bb_C} {pc : Nat}
theorem sd_iadd (hx : bb_Cx p s m args c D bs ad aI aC aS cc own Ts) (hd : decode cc pc = .ok (.iadd, 1)) : bb_Snd p l e R s m args below meth c D bs ad aI aC aS Rp C pc (bo_iadd (pc + 1)) := by
  intro ls st M h
  unfold bo_iadd at h
  split at h
  · rename_i b a st
    intro hok H locs la hl hW hS
    exact lv_iadd hx.1 hx.2.1 hd (h (bb_okc trivial (bb_okt (bb_okt hok))) H locs la hl hW hS)
  · exact h.elim
theorem sd_isub (hx : bb_Cx p s m args c D bs ad aI aC aS cc own Ts) (hd : decode cc pc = .ok (.isub, 1)) : bb_Snd p l e R s m args below meth c D bs ad aI aC aS Rp C pc (bo_isub (pc + 1)) := by
  intro ls st M h
  unfold bo_isub at h
  split at h
  · rename_i b a st
    intro hok H locs la hl hW hS
    exact lv_isub hx.1 hx.2.1 hd (h (bb_okc trivial (bb_okt (bb_okt hok))) H locs la hl hW hS)
  · exact h.elim
theorem sd_imul (hx : bb_Cx p s m args c D bs ad aI aC aS cc own Ts) (hd : decode cc pc = .ok (.imul, 1)) : bb_Snd p l e R s m args below meth c D bs ad aI aC aS Rp C pc (bo_imul (pc + 1)) := by
  intro ls st M h
  unfold bo_imul at h
  split at h
  · rename_i b a st
    intro hok H locs la hl hW hS
    exact lv_imul hx.1 hx.2.1 hd (h (bb_okc trivial (bb_okt (bb_okt hok))) H locs la hl hW hS)
  · exact h.elim
theorem sd_iand (hx : bb_Cx p s m args c D bs ad aI aC aS cc own Ts) (hd : decode cc pc = .ok (.iand, 1)) : bb_Snd p l e R s m args below meth c D bs ad aI aC aS Rp C pc (bo_iand (pc + 1)) := by
  intro ls st M h
  unfold bo_iand at h
  split at h
  · rename_i b a st
    intro hok H locs la hl hW hS
    exact lv_iand hx.1 hx.2.1 hd (h (bb_okc trivial (bb_okt (bb_okt hok))) H locs la hl hW hS)
  · exact h.elim
theorem sd_ior (hx : bb_Cx p s m args c D bs ad aI aC aS cc own Ts) (hd : decode cc pc = .ok (.ior, 1)) : bb_Snd p l e R s m args below meth c D bs ad aI aC aS Rp C pc (bo_ior (pc + 1)) := by
  intro ls st M h
  unfold bo_ior at h
  split at h
  · rename_i b a st
    intro hok H locs la hl hW hS
    exact lv_ior hx.1 hx.2.1 hd (h (bb_okc trivial (bb_okt (bb_okt hok))) H locs la hl hW hS)
  · exact h.elim
theorem sd_ishl (hx : bb_Cx p s m args c D bs ad aI aC aS cc own Ts) (hd : decode cc pc = .ok (.ishl, 1)) : bb_Snd p l e R s m args below meth c D bs ad aI aC aS Rp C pc (bo_ishl (pc + 1)) := by
  intro ls st M h
  unfold bo_ishl at h
  split at h
  · rename_i b a st
    intro hok H locs la hl hW hS
    exact lv_ishl hx.1 hx.2.1 hd (h (bb_okc trivial (bb_okt (bb_okt hok))) H locs la hl hW hS)
  · exact h.elim
theorem sd_ishr (hx : bb_Cx p s m args c D bs ad aI aC aS cc own Ts) (hd : decode cc pc = .ok (.ishr, 1)) : bb_Snd p l e R s m args below meth c D bs ad aI aC aS Rp C pc (bo_ishr (pc + 1)) := by
  intro ls st M h
  unfold bo_ishr at h
  split at h
  · rename_i b a st
    intro hok H locs la hl hW hS
    exact lv_ishr hx.1 hx.2.1 hd (h (bb_okc trivial (bb_okt (bb_okt hok))) H locs la hl hW hS)
  · exact h.elim
theorem sd_iushr (hx : bb_Cx p s m args c D bs ad aI aC aS cc own Ts) (hd : decode cc pc = .ok (.iushr, 1)) : bb_Snd p l e R s m args below meth c D bs ad aI aC aS Rp C pc (bo_iushr (pc + 1)) := by
  intro ls st M h
  unfold bo_iushr at h
  split at h
  · rename_i b a st
    intro hok H locs la hl hW hS
    exact lv_iushr hx.1 hx.2.1 hd rfl (h (bb_okc trivial (bb_okt (bb_okt hok))) H locs la hl hW hS)
  · exact h.elim
theorem sd_idiv (hx : bb_Cx p s m args c D bs ad aI aC aS cc own Ts) (hd : decode cc pc = .ok (.idiv, 1)) : bb_Snd p l e R s m args below meth c D bs ad aI aC aS Rp C pc (bo_idiv (pc + 1)) := by
  intro ls st M h
  unfold bo_idiv at h
  split at h
  · rename_i b a st
    intro hok H locs la hl hW hS
    rw [bb_do_ite] at h
    by_cases hb0 : b = 0
    · rw [if_pos hb0] at h
      exact h.elim
    · rw [if_neg hb0] at h
      exact lv_idiv hx.1 hx.2.1 hd hb0 (h (bb_okc trivial (bb_okt (bb_okt hok))) H locs la hl hW hS)
  · exact h.elim
theorem sd_irem (hx : bb_Cx p s m args c D bs ad aI aC aS cc own Ts) (hd : decode cc pc = .ok (.irem, 1)) : bb_Snd p l e R s m args below meth c D bs ad aI aC aS Rp C pc (bo_irem (pc + 1)) := by
  intro ls st M h
  unfold bo_irem at h
  split at h
  · rename_i b a st
    intro hok H locs la hl hW hS
    rw [bb_do_ite] at h
    by_cases hb0 : b = 0
    · rw [if_pos hb0] at h
      exact h.elim
    · rw [if_neg hb0] at h
      exact lv_irem hx.1 hx.2.1 hd hb0 (h (bb_okc trivial (bb_okt (bb_okt hok))) H locs la hl hW hS)
  · exact h.elim
theorem sd_ineg (hx : bb_Cx p s m args c D bs ad aI aC aS cc own Ts) (hd : decode cc pc = .ok (.ineg, 1)) : bb_Snd p l e R s m args below meth c D bs ad aI aC aS Rp C pc (bo_ineg (pc + 1)) := by
  intro ls st M h
  unfold bo_ineg at h
  split at h
  · rename_i a st
    intro hok H locs la hl hW hS
    exact lv_ineg hx.1 hx.2.1 hd (h (bb_okc trivial (bb_okt hok)) H locs la hl hW hS)
  · exact h.elim
theorem sd_i2c (hx : bb_Cx p s m args c D bs ad aI aC aS cc own Ts) (hd : decode cc pc = .ok (.i2c, 1)) : bb_Snd p l e R s m args below meth c D bs ad aI aC aS Rp C pc (bo_i2c (pc + 1)) := by
  intro ls st M h
  unfold bo_i2c at h
  split at h
  · rename_i a st
    intro hok H locs la hl hW hS
    exact lv_i2c hx.1 hx.2.1 hd rfl (h (bb_okc trivial (bb_okt hok)) H locs la hl hW hS)
  · exact h.elim
theorem sd_i2l (hx : bb_Cx p s m args c D bs ad aI aC aS cc own Ts) (hd : decode cc pc = .ok (.i2l, 1)) : bb_Snd p l e R s m args below meth c D bs ad aI aC aS Rp C pc (bo_i2l (pc + 1)) := by
  intro ls st M h
  unfold bo_i2l at h
  split at h
  · rename_i a st
    intro hok H locs la hl hW hS
    exact lv_i2l hx.1 hx.2.1 hd rfl (h (bb_okc trivial (bb_okt hok)) H locs la hl hW hS)
  · exact h.elim
theorem sd_pop (hx : bb_Cx p s m args c D bs ad aI aC aS cc own Ts) (hd : decode cc pc = .ok (.pop, 1)) : bb_Snd p l e R s m args below meth c D bs ad aI aC aS Rp C pc (bo_pop (pc + 1)) := by
  intro ls st M h
  unfold bo_pop at h
  split at h
  · rename_i a st
    intro hok H locs la hl hW hS
    exact lv_pop hx.1 hx.2.1 hd rfl (h (bb_okt hok) H locs la hl hW hS)
  · exact h.elim
theorem sd_dup (hx : bb_Cx p s m args c D bs ad aI aC aS cc own Ts) (hd : decode cc pc = .ok (.dup, 1)) : bb_Snd p l e R s m args below meth c D bs ad aI aC aS Rp C pc (bo_dup (pc + 1)) := by
  intro ls st M h
  unfold bo_dup at h
  split at h
  · rename_i a st
    intro hok H locs la hl hW hS
    exact lv_dup hx.1 hx.2.1 hd rfl (h (bb_okc trivial hok) H locs la hl hW hS)
  · rename_i r st
    intro hok H locs la hl hW hS
    exact lv_dup hx.1 hx.2.1 hd rfl (h (bb_okc (bb_okh hok) hok) H locs la hl hW hS)
  · exact h.elim
theorem sd_dup2 (hx : bb_Cx p s m args c D bs ad aI aC aS cc own Ts) (hd : decode cc pc = .ok (.dup2, 1)) : bb_Snd p l e R s m args below meth c D bs ad aI aC aS Rp C pc (bo_dup2 (pc + 1)) := by
  intro ls st M h
  unfold bo_dup2 at h
  split at h
  · rename_i a r st
    intro hok H locs la hl hW hS
    exact lv_dup2_11 hx.1 hx.2.1 hd rfl rfl (h (bb_okc trivial (bb_okc (bb_okh (bb_okt hok)) hok)) H locs la hl hW hS)
  · exact h.elim
theorem sd_iload_n (hx : bb_Cx p s m args c D bs ad aI aC aS cc own Ts) {k : Fin 4} {i : Nat} (hd : decode cc pc = .ok (.iload_n k, 1)) (hi : (k : Nat) = i) : bb_Snd p l e R s m args below meth c D bs ad aI aC aS Rp C pc (bo_iload i (pc + 1)) := by
  intro ls st M h
  unfold bo_iload at h
  split at h
  · rename_i x hv
    intro hok H locs la hl hW hS
    have h2 := bb_L_at hl hv (fun q => by simp [bb_U] at q)
    exact lv_iload_n hx.1 hx.2.1 hd hi h2.1 (h (bb_okc h2.2.1 hok) H locs la hl hW hS)
  · exact h.elim
theorem sd_iload (hx : bb_Cx p s m args c D bs ad aI aC aS cc own Ts) {i : Nat} (hd : decode cc pc = .ok (.iload i, 2)) : bb_Snd p l e R s m args below meth c D bs ad aI aC aS Rp C pc (bo_iload i (pc + 2)) := by
  intro ls st M h
  unfold bo_iload at h
  split at h
  · rename_i x hv
    intro hok H locs la hl hW hS
    have h2 := bb_L_at hl hv (fun q => by simp [bb_U] at q)
    exact lv_iload hx.1 hx.2.1 hd h2.1 (h (bb_okc h2.2.1 hok) H locs la hl hW hS)
  · exact h.elim
theorem sd_aload_n (hx : bb_Cx p s m args c D bs ad aI aC aS cc own Ts) {k : Fin 4} {i : Nat} (hd : decode cc pc = .ok (.aload_n k, 1)) (hi : (k : Nat) = i) : bb_Snd p l e R s m args below meth c D bs ad aI aC aS Rp C pc (bo_aload i (pc + 1)) := by
  intro ls st M h
  unfold bo_aload at h
  split at h
  · rename_i r hv
    intro hok H locs la hl hW hS
    have h2 := bb_L_at hl hv (fun q => by simp [bb_U] at q)
    exact lv_aload_n hx.1 hx.2.1 hd hi h2.1 (h (bb_okc h2.2.1 hok) H locs la hl hW hS)
  · exact h.elim
theorem sd_aload (hx : bb_Cx p s m args c D bs ad aI aC aS cc own Ts) {i : Nat} (hd : decode cc pc = .ok (.aload i, 2)) : bb_Snd p l e R s m args below meth c D bs ad aI aC aS Rp C pc (bo_aload i (pc + 2)) := by
  intro ls st M h
  unfold bo_aload at h
  split at h
  · rename_i r hv
    intro hok H locs la hl hW hS
    have h2 := bb_L_at hl hv (fun q => by simp [bb_U] at q)
    exact lv_aload hx.1 hx.2.1 hd h2.1 (h (bb_okc h2.2.1 hok) H locs la hl hW hS)
  · exact h.elim
theorem sd_istore_n (hx : bb_Cx p s m args c D bs ad aI aC aS cc own Ts) {k : Fin 4} {i : Nat} (hd : decode cc pc = .ok (.istore_n k, 1)) (hi : (k : Nat) = i) : bb_Snd p l e R s m args below meth c D bs ad aI aC aS Rp C pc (bo_istore i (pc + 1)) := by
  intro ls st M h
  unfold bo_istore at h
  split at h
  · rename_i _ _ w0 x st hv
    intro hok H locs la hl hW hS
    exact lv_istore_n hx.1 hx.2.1 hd hi (bb_L_has hl) (List.getElem?_eq_some_iff.mp hv).1 rfl (fun la' hl' => h (bb_okt hok) H locs la' (bb_L_set hl hv (bb_okh hok) rfl hl') hW hS)
  · exact h.elim
theorem sd_istore (hx : bb_Cx p s m args c D bs ad aI aC aS cc own Ts) {i : Nat} (hd : decode cc pc = .ok (.istore i, 2)) : bb_Snd p l e R s m args below meth c D bs ad aI aC aS Rp C pc (bo_istore i (pc + 2)) := by
  intro ls st M h
  unfold bo_istore at h
  split at h
  · rename_i _ _ w0 x st hv
    intro hok H locs la hl hW hS
    exact lv_istore hx.1 hx.2.1 hd (bb_L_has hl) (List.getElem?_eq_some_iff.mp hv).1 rfl (fun la' hl' => h (bb_okt hok) H locs la' (bb_L_set hl hv (bb_okh hok) rfl hl') hW hS)
  · exact h.elim
theorem sd_astore_n (hx : bb_Cx p s m args c D bs ad aI aC aS cc own Ts) {k : Fin 4} {i : Nat} (hd : decode cc pc = .ok (.astore_n k, 1)) (hi : (k : Nat) = i) : bb_Snd p l e R s m args below meth c D bs ad aI aC aS Rp C pc (bo_astore i (pc + 1)) := by
  intro ls st M h
  unfold bo_astore at h
  split at h
  · rename_i _ _ w0 r st hv
    intro hok H locs la hl hW hS
    exact lv_astore_n hx.1 hx.2.1 hd hi (bb_L_has hl) (List.getElem?_eq_some_iff.mp hv).1 rfl (fun la' hl' => h (bb_okt hok) H locs la' (bb_L_set hl hv (bb_okh hok) rfl hl') hW hS)
  · exact h.elim
theorem sd_astore (hx : bb_Cx p s m args c D bs ad aI aC aS cc own Ts) {i : Nat} (hd : decode cc pc = .ok (.astore i, 2)) : bb_Snd p l e R s m args below meth c D bs ad aI aC aS Rp C pc (bo_astore i (pc + 2)) := by
  intro ls st M h
  unfold bo_astore at h
  split at h
  · rename_i _ _ w0 r st hv
    intro hok H locs la hl hW hS
    exact lv_astore hx.1 hx.2.1 hd (bb_L_has hl) (List.getElem?_eq_some_iff.mp hv).1 rfl (fun la' hl' => h (bb_okt hok) H locs la' (bb_L_set hl hv (bb_okh hok) rfl hl') hW hS)
  · exact h.elim
theorem sd_iinc (hx : bb_Cx p s m args c D bs ad aI aC aS cc own Ts) {i : Nat} {k : Int} {v : Int32} (hd : decode cc pc = .ok (.iinc i k, 3)) (hv0 : Int32.ofInt k = v) : bb_Snd p l e R s m args below meth c D bs ad aI aC aS Rp C pc (bo_iinc i v (pc + 3)) := by
  intro ls st M h
  unfold bo_iinc at h
  split at h
  · rename_i x hv
    intro hok H locs la hl hW hS
    subst hv0
    have h2 := bb_L_at hl hv (fun q => by simp [bb_U] at q)
    obtain ⟨j, hj⟩ := List.getElem?_of_mem (bb_as_mem (ad := ad) hv (fun q => by simp [bb_U] at q) rfl)
    exact lv_iinc hx.1 hx.2.1 hd (bb_L_has hl) (k := j) hj rfl (List.getElem?_eq_some_iff.mp hv).1 rfl (fun la' hl' => h hok H locs la' (bb_L_set (v := .inl (x + Int32.ofInt k)) hl hv trivial rfl hl') hW hS)
  · exact h.elim
theorem sd_iconst (hx : bb_Cx p s m args c D bs ad aI aC aS cc own Ts) {n : Int} {v : Int32} (hd : decode cc pc = .ok (.iconst n, 1)) (hv : Int32.ofInt n = v) : bb_Snd p l e R s m args below meth c D bs ad aI aC aS Rp C pc (bo_const v (pc + 1)) := by
  intro ls st M h hok H locs la hl hW hS
  exact lv_iconst hx.1 hx.2.1 hd hv (h (bb_okc trivial hok) H locs la hl hW hS)
theorem sd_bipush (hx : bb_Cx p s m args c D bs ad aI aC aS cc own Ts) {n : Int} {v : Int32} (hd : decode cc pc = .ok (.bipush n, 2)) (hv : (Int8.ofInt n).toInt32 = v) : bb_Snd p l e R s m args below meth c D bs ad aI aC aS Rp C pc (bo_const v (pc + 2)) := by
  intro ls st M h hok H locs la hl hW hS
  exact lv_bipush hx.1 hx.2.1 hd hv (h (bb_okc trivial hok) H locs la hl hW hS)
theorem sd_sipush (hx : bb_Cx p s m args c D bs ad aI aC aS cc own Ts) {n : Int} {v : Int32} (hd : decode cc pc = .ok (.sipush n, 3)) (hv : (Int16.ofInt n).toInt32 = v) : bb_Snd p l e R s m args below meth c D bs ad aI aC aS Rp C pc (bo_const v (pc + 3)) := by
  intro ls st M h hok H locs la hl hW hS
  exact lv_sipush hx.1 hx.2.1 hd hv (h (bb_okc trivial hok) H locs la hl hW hS)
theorem sd_ldc (hx : bb_Cx p s m args c D bs ad aI aC aS cc own Ts) {idx : Nat} {v : Int32} (hd : decode cc pc = .ok (.ldc idx, 2)) (hw : Cond.constant own idx v ∈ Ts) : bb_Snd p l e R s m args below meth c D bs ad aI aC aS Rp C pc (bo_const v (pc + 2)) := by
  intro ls st M h hok H locs la hl hW hS
  exact lv_ldc hx.1 hx.2.1 hx.2.2.1 (hx.2.2.2.1 _ hw) hd (h (bb_okc trivial hok) H locs la hl hW hS)
theorem sd_ldcw (hx : bb_Cx p s m args c D bs ad aI aC aS cc own Ts) {idx : Nat} {v : Int32} (hd : decode cc pc = .ok (.ldc_w idx, 3)) (hw : Cond.constant own idx v ∈ Ts) : bb_Snd p l e R s m args below meth c D bs ad aI aC aS Rp C pc (bo_const v (pc + 3)) := by
  intro ls st M h hok H locs la hl hW hS
  exact lv_ldcw hx.1 hx.2.1 hx.2.2.1 (hx.2.2.2.1 _ hw) hd (h (bb_okc trivial hok) H locs la hl hW hS)
theorem sd_lconst (hx : bb_Cx p s m args c D bs ad aI aC aS cc own Ts) {n : Fin 2} {v : Int64} (hd : decode cc pc = .ok (.lconst n, 1)) (hv : Int64.ofNat (n : Nat) = v) : bb_Snd p l e R s m args below meth c D bs ad aI aC aS Rp C pc (bo_lconst v (pc + 1)) := by
  intro ls st M h hok H locs la hl hW hS
  exact lv_lconst hx.1 hx.2.1 hd hv (h (bb_okc trivial hok) H locs la hl hW hS)
theorem sd_ldc2 (hx : bb_Cx p s m args c D bs ad aI aC aS cc own Ts) {idx : Nat} {v : Int64} (hd : decode cc pc = .ok (.ldc2_w idx, 3)) (hw : Cond.constantLong own idx v ∈ Ts) : bb_Snd p l e R s m args below meth c D bs ad aI aC aS Rp C pc (bo_lconst v (pc + 3)) := by
  intro ls st M h hok H locs la hl hW hS
  exact lv_ldc2 hx.1 hx.2.1 hx.2.2.1 (hx.2.2.2.1 _ hw) hd (h (bb_okc trivial hok) H locs la hl hW hS)
theorem sd_goto (hx : bb_Cx p s m args c D bs ad aI aC aS cc own Ts) {off : Int} {t : Nat} (hd : decode cc pc = .ok (.goto off, 3)) (ht : (pc : Int) + off = (t : Int)) : bb_Snd p l e R s m args below meth c D bs ad aI aC aS Rp C pc (bo_goto t) := by
  intro ls st M h hok H locs la hl hW hS
  exact lv_goto hx.1 hx.2.1 hd ht (h hok H locs la hl hW hS)
theorem sd_ifeq (hx : bb_Cx p s m args c D bs ad aI aC aS cc own Ts) {off : Int} {t : Nat} (hd : decode cc pc = .ok (.ifCond .eq off, 3)) (ht : (pc : Int) + off = (t : Int)) : bb_Snd p l e R s m args below meth c D bs ad aI aC aS Rp C pc (bo_ifeq t (pc + 3)) := by
  intro ls st M h
  unfold bo_ifeq at h
  split at h
  · rename_i a st
    intro hok H locs la hl hW hS
    rw [bb_do_ite] at h
    refine lv_if_eq hx.1 hx.2.1 hd ht (fun q => ?_) (fun q => ?_)
    · rw [if_pos q] at h
      exact h (bb_okt hok) H locs la hl hW hS
    · rw [if_neg q] at h
      exact h (bb_okt hok) H locs la hl hW hS
  · exact h.elim
theorem sd_iceq (hx : bb_Cx p s m args c D bs ad aI aC aS cc own Ts) {off : Int} {t : Nat} (hd : decode cc pc = .ok (.if_icmp .eq off, 3)) (ht : (pc : Int) + off = (t : Int)) : bb_Snd p l e R s m args below meth c D bs ad aI aC aS Rp C pc (bo_iceq t (pc + 3)) := by
  intro ls st M h
  unfold bo_iceq at h
  split at h
  · rename_i b a st
    intro hok H locs la hl hW hS
    rw [bb_do_ite] at h
    refine lv_icmp_eq hx.1 hx.2.1 hd ht (fun q => ?_) (fun q => ?_)
    · rw [if_pos q] at h
      exact h (bb_okt (bb_okt hok)) H locs la hl hW hS
    · rw [if_neg q] at h
      exact h (bb_okt (bb_okt hok)) H locs la hl hW hS
  · exact h.elim
theorem sd_ifne (hx : bb_Cx p s m args c D bs ad aI aC aS cc own Ts) {off : Int} {t : Nat} (hd : decode cc pc = .ok (.ifCond .ne off, 3)) (ht : (pc : Int) + off = (t : Int)) : bb_Snd p l e R s m args below meth c D bs ad aI aC aS Rp C pc (bo_ifne t (pc + 3)) := by
  intro ls st M h
  unfold bo_ifne at h
  split at h
  · rename_i a st
    intro hok H locs la hl hW hS
    rw [bb_do_ite] at h
    refine lv_if_ne hx.1 hx.2.1 hd ht (fun q => ?_) (fun q => ?_)
    · rw [if_pos q] at h
      exact h (bb_okt hok) H locs la hl hW hS
    · rw [if_neg (fun z => z q)] at h
      exact h (bb_okt hok) H locs la hl hW hS
  · exact h.elim
theorem sd_icne (hx : bb_Cx p s m args c D bs ad aI aC aS cc own Ts) {off : Int} {t : Nat} (hd : decode cc pc = .ok (.if_icmp .ne off, 3)) (ht : (pc : Int) + off = (t : Int)) : bb_Snd p l e R s m args below meth c D bs ad aI aC aS Rp C pc (bo_icne t (pc + 3)) := by
  intro ls st M h
  unfold bo_icne at h
  split at h
  · rename_i b a st
    intro hok H locs la hl hW hS
    rw [bb_do_ite] at h
    refine lv_icmp_ne hx.1 hx.2.1 hd ht (fun q => ?_) (fun q => ?_)
    · rw [if_pos q] at h
      exact h (bb_okt (bb_okt hok)) H locs la hl hW hS
    · rw [if_neg (fun z => z q)] at h
      exact h (bb_okt (bb_okt hok)) H locs la hl hW hS
  · exact h.elim
theorem sd_iflt (hx : bb_Cx p s m args c D bs ad aI aC aS cc own Ts) {off : Int} {t : Nat} (hd : decode cc pc = .ok (.ifCond .lt off, 3)) (ht : (pc : Int) + off = (t : Int)) : bb_Snd p l e R s m args below meth c D bs ad aI aC aS Rp C pc (bo_iflt t (pc + 3)) := by
  intro ls st M h
  unfold bo_iflt at h
  split at h
  · rename_i a st
    intro hok H locs la hl hW hS
    rw [bb_do_ite] at h
    refine lv_if_lt hx.1 hx.2.1 hd ht (fun q => ?_) (fun q => ?_)
    · rw [if_pos q] at h
      exact h (bb_okt hok) H locs la hl hW hS
    · rw [if_neg q] at h
      exact h (bb_okt hok) H locs la hl hW hS
  · exact h.elim
theorem sd_iclt (hx : bb_Cx p s m args c D bs ad aI aC aS cc own Ts) {off : Int} {t : Nat} (hd : decode cc pc = .ok (.if_icmp .lt off, 3)) (ht : (pc : Int) + off = (t : Int)) : bb_Snd p l e R s m args below meth c D bs ad aI aC aS Rp C pc (bo_iclt t (pc + 3)) := by
  intro ls st M h
  unfold bo_iclt at h
  split at h
  · rename_i b a st
    intro hok H locs la hl hW hS
    rw [bb_do_ite] at h
    refine lv_icmp_lt hx.1 hx.2.1 hd ht (fun q => ?_) (fun q => ?_)
    · rw [if_pos q] at h
      exact h (bb_okt (bb_okt hok)) H locs la hl hW hS
    · rw [if_neg q] at h
      exact h (bb_okt (bb_okt hok)) H locs la hl hW hS
  · exact h.elim
theorem sd_ifge (hx : bb_Cx p s m args c D bs ad aI aC aS cc own Ts) {off : Int} {t : Nat} (hd : decode cc pc = .ok (.ifCond .ge off, 3)) (ht : (pc : Int) + off = (t : Int)) : bb_Snd p l e R s m args below meth c D bs ad aI aC aS Rp C pc (bo_ifge t (pc + 3)) := by
  intro ls st M h
  unfold bo_ifge at h
  split at h
  · rename_i a st
    intro hok H locs la hl hW hS
    rw [bb_do_ite] at h
    refine lv_if_ge hx.1 hx.2.1 hd ht (fun q => ?_) (fun q => ?_)
    · rw [if_pos q] at h
      exact h (bb_okt hok) H locs la hl hW hS
    · rw [if_neg q] at h
      exact h (bb_okt hok) H locs la hl hW hS
  · exact h.elim
theorem sd_icge (hx : bb_Cx p s m args c D bs ad aI aC aS cc own Ts) {off : Int} {t : Nat} (hd : decode cc pc = .ok (.if_icmp .ge off, 3)) (ht : (pc : Int) + off = (t : Int)) : bb_Snd p l e R s m args below meth c D bs ad aI aC aS Rp C pc (bo_icge t (pc + 3)) := by
  intro ls st M h
  unfold bo_icge at h
  split at h
  · rename_i b a st
    intro hok H locs la hl hW hS
    rw [bb_do_ite] at h
    refine lv_icmp_ge hx.1 hx.2.1 hd ht (fun q => ?_) (fun q => ?_)
    · rw [if_pos q] at h
      exact h (bb_okt (bb_okt hok)) H locs la hl hW hS
    · rw [if_neg q] at h
      exact h (bb_okt (bb_okt hok)) H locs la hl hW hS
  · exact h.elim
theorem sd_ifgt (hx : bb_Cx p s m args c D bs ad aI aC aS cc own Ts) {off : Int} {t : Nat} (hd : decode cc pc = .ok (.ifCond .gt off, 3)) (ht : (pc : Int) + off = (t : Int)) : bb_Snd p l e R s m args below meth c D bs ad aI aC aS Rp C pc (bo_ifgt t (pc + 3)) := by
  intro ls st M h
  unfold bo_ifgt at h
  split at h
  · rename_i a st
    intro hok H locs la hl hW hS
    rw [bb_do_ite] at h
    refine lv_if_gt hx.1 hx.2.1 hd ht (fun q => ?_) (fun q => ?_)
    · rw [if_pos q] at h
      exact h (bb_okt hok) H locs la hl hW hS
    · rw [if_neg q] at h
      exact h (bb_okt hok) H locs la hl hW hS
  · exact h.elim
theorem sd_icgt (hx : bb_Cx p s m args c D bs ad aI aC aS cc own Ts) {off : Int} {t : Nat} (hd : decode cc pc = .ok (.if_icmp .gt off, 3)) (ht : (pc : Int) + off = (t : Int)) : bb_Snd p l e R s m args below meth c D bs ad aI aC aS Rp C pc (bo_icgt t (pc + 3)) := by
  intro ls st M h
  unfold bo_icgt at h
  split at h
  · rename_i b a st
    intro hok H locs la hl hW hS
    rw [bb_do_ite] at h
    refine lv_icmp_gt hx.1 hx.2.1 hd ht (fun q => ?_) (fun q => ?_)
    · rw [if_pos q] at h
      exact h (bb_okt (bb_okt hok)) H locs la hl hW hS
    · rw [if_neg q] at h
      exact h (bb_okt (bb_okt hok)) H locs la hl hW hS
  · exact h.elim
theorem sd_ifle (hx : bb_Cx p s m args c D bs ad aI aC aS cc own Ts) {off : Int} {t : Nat} (hd : decode cc pc = .ok (.ifCond .le off, 3)) (ht : (pc : Int) + off = (t : Int)) : bb_Snd p l e R s m args below meth c D bs ad aI aC aS Rp C pc (bo_ifle t (pc + 3)) := by
  intro ls st M h
  unfold bo_ifle at h
  split at h
  · rename_i a st
    intro hok H locs la hl hW hS
    rw [bb_do_ite] at h
    refine lv_if_le hx.1 hx.2.1 hd ht (fun q => ?_) (fun q => ?_)
    · rw [if_pos q] at h
      exact h (bb_okt hok) H locs la hl hW hS
    · rw [if_neg q] at h
      exact h (bb_okt hok) H locs la hl hW hS
  · exact h.elim
theorem sd_icle (hx : bb_Cx p s m args c D bs ad aI aC aS cc own Ts) {off : Int} {t : Nat} (hd : decode cc pc = .ok (.if_icmp .le off, 3)) (ht : (pc : Int) + off = (t : Int)) : bb_Snd p l e R s m args below meth c D bs ad aI aC aS Rp C pc (bo_icle t (pc + 3)) := by
  intro ls st M h
  unfold bo_icle at h
  split at h
  · rename_i b a st
    intro hok H locs la hl hW hS
    rw [bb_do_ite] at h
    refine lv_icmp_le hx.1 hx.2.1 hd ht (fun q => ?_) (fun q => ?_)
    · rw [if_pos q] at h
      exact h (bb_okt (bb_okt hok)) H locs la hl hW hS
    · rw [if_neg q] at h
      exact h (bb_okt (bb_okt hok)) H locs la hl hW hS
  · exact h.elim
theorem bb_sw_do {K : bb_K} {x : Int32} {ls st : List bb_V} {M : bb_M} {d : Nat} : ∀ cs : List (Int32 × Nat), bb_do C Rp K (bb_sw x ls st M d cs) → (∃ q ∈ cs, x = q.1 ∧ K q.2 ls st M) ∨ ((∀ q ∈ cs, x ≠ q.1) ∧ K d ls st M)
  | [], h => Or.inr ⟨fun q hq => absurd hq List.not_mem_nil, h⟩
  | (a, t) :: r, h => by
    unfold bb_sw at h
    rw [bb_do_ite] at h
    by_cases hxa : x = a
    · rw [if_pos hxa] at h
      exact Or.inl ⟨(a, t), List.mem_cons_self, hxa, h⟩
    · rw [if_neg hxa] at h
      rcases bb_sw_do r h with ⟨q, h1, h2, h3⟩ | ⟨h1, h2⟩
      · exact Or.inl ⟨q, List.mem_cons_of_mem _ h1, h2, h3⟩
      · exact Or.inr ⟨List.forall_mem_cons.mpr ⟨hxa, h1⟩, h2⟩
theorem sd_tsw (hx : bb_Cx p s m args c D bs ad aI aC aS cc own Ts) {dflt lo hi : Int} {offs : Array Int} {len d : Nat} {cs : List (Int32 × Nat)} (hd : decode cc pc = .ok (.tableswitch dflt lo hi offs, len)) (h1 : ∀ q ∈ cs, offs[(q.1.toInt - lo).toNat]? = some ((q.2 : Int) - (pc : Int)) ∧ ¬ q.1.toInt < lo ∧ ¬ hi < q.1.toInt) (h2 : ∀ j, j < (hi - lo + 1).toNat → ∃ q ∈ cs, q.1.toInt = lo + (j : Int)) (h3 : (pc : Int) + dflt = (d : Int)) : bb_Snd p l e R s m args below meth c D bs ad aI aC aS Rp C pc (bo_sw cs d) := by
  intro ls st M h
  unfold bo_sw at h
  split at h
  · rename_i x st
    intro hok H locs la hl hW hS
    rcases bb_sw_do cs h with ⟨q, a1, a2, a3⟩ | ⟨a1, a2⟩
    · obtain ⟨b1, b2, b3⟩ := h1 q a1
      subst a2
      exact lv_tableIn hx.1 hx.2.1 hd b2 b3 b1 (by omega) (a3 (bb_okt hok) H locs la hl hW hS)
    · refine lv_tableOut hx.1 hx.2.1 hd ?_ h3 (a2 (bb_okt hok) H locs la hl hW hS)
      by_cases g1 : x.toInt < lo
      · exact Or.inl g1
      · by_cases g2 : hi < x.toInt
        · exact Or.inr g2
        · obtain ⟨q, b1, b2⟩ := h2 (x.toInt - lo).toNat (by omega)
          exact absurd (Int32.toInt_inj.mp (by rw [b2]; omega)) (a1 q b1)
  · exact h.elim
theorem sd_lsw (hx : bb_Cx p s m args c D bs ad aI aC aS cc own Ts) {dflt k1 k2 o1 o2 : Int} {len d t1 t2 : Nat} {c1 c2 : Int32} (hd : decode cc pc = .ok (.lookupswitch dflt #[(k1, o1), (k2, o2)], len)) (hk : k1 < k2) (e1 : c1.toInt = k1) (e2 : c2.toInt = k2) (g1 : (pc : Int) + o1 = (t1 : Int)) (g2 : (pc : Int) + o2 = (t2 : Int)) (g3 : (pc : Int) + dflt = (d : Int)) : bb_Snd p l e R s m args below meth c D bs ad aI aC aS Rp C pc (bo_sw [(c1, t1), (c2, t2)] d) := by
  intro ls st M h
  unfold bo_sw at h
  split at h
  · rename_i x st
    intro hok H locs la hl hW hS
    unfold bb_sw at h
    rw [bb_do_ite] at h
    by_cases q1 : x = c1
    · rw [if_pos q1] at h
      exact lv_lookup hx.1 hx.2.1 hd (by simp [hk]) (off := o1) (by subst q1; rw [e1]; show Op.lookupswitch.offset [(k1, o1), (k2, o2)] dflt k1 = o1; rw [Op.lookupswitch.offset_cons, if_pos rfl]) g1 (h (bb_okt hok) H locs la hl hW hS)
    · rw [if_neg q1] at h
      unfold bb_sw at h
      rw [bb_do_ite] at h
      by_cases q2 : x = c2
      · rw [if_pos q2] at h
        exact lv_lookup hx.1 hx.2.1 hd (by simp [hk]) (off := o2) (by show Op.lookupswitch.offset [(k1, o1), (k2, o2)] dflt x.toInt = o2; rw [lv_osw q1 e1]; subst q2; rw [e2, Op.lookupswitch.offset_cons, if_pos rfl]) g2 (h (bb_okt hok) H locs la hl hW hS)
      · rw [if_neg q2] at h
        exact lv_lookup hx.1 hx.2.1 hd (by simp [hk]) (off := dflt) (by show Op.lookupswitch.offset [(k1, o1), (k2, o2)] dflt x.toInt = dflt; rw [lv_osw q1 e1, lv_osw q2 e2]; rfl) g3 (h (bb_okt hok) H locs la hl hW hS)
  · exact h.elim
theorem sd_getI (hx : bb_Cx p s m args c D bs ad aI aC aS cc own Ts) {idx k sl N : Nat} {T : u_T} {Cn ref : String} (hd : decode cc pc = .ok (.getfield idx, 3)) (hcl : bb_cls[k]? = some (Cn, T, N)) (hin : ∀ w ∈ u_ws Cn T N, w ∈ Ts) (hsl : sl < N) (hk8 : k < 8) (hw : Cond.fieldLink own idx ref (T sl).2.1 (T sl).2.2.1 ∈ Ts) (hsame : ∀ x, s.fieldFound? (T sl).1 (T sl).2.1 (T sl).2.2.1 = some x → s.fieldFound? ref (T sl).2.1 (T sl).2.2.1 = some x) (hf : (bb_ft k)[sl]? = some none) : bb_Snd p l e R s m args below meth c D bs ad aI aC aS Rp C pc (bo_getI k sl (pc + 3)) := by
  intro ls st M h
  unfold bo_getI at h
  split at h
  · rename_i k' i st
    intro hok H locs la hl hW hS
    rw [bb_do_if] at h
    obtain ⟨rfl, h⟩ := h
    obtain ⟨q0, hq⟩ := bb_pos (k := k') (i := i) (by omega) (bb_okh hok)
    have hat := bb_WS_at (ad := ad) (aI := aI) (aC := aC) (aS := aS) (M := M) hq
    rw [bb_ce_o hk8] at hat
    refine va_get hx.1 hx.2.1 hx.2.2.2.1 hin hx.2.2.1 hx.2.2.2.2.1 hW.1 q0 hat hcl sl hsl (hx.2.2.2.1 _ hw) hsame (v := .int (M k' i sl)) ?_ hd (h (bb_okc trivial (bb_okt hok)) H locs la hl hW hS)
    have := bb_fls_int (ad := ad) (M := M) (k := k') (i := i) _ 0 sl hf
    rwa [Nat.zero_add] at this
  · exact h.elim
theorem sd_getR (hx : bb_Cx p s m args c D bs ad aI aC aS cc own Ts) {k2 : Nat} {g : Nat → Nat} {idx k sl N : Nat} {T : u_T} {Cn ref : String} (hd : decode cc pc = .ok (.getfield idx, 3)) (hcl : bb_cls[k]? = some (Cn, T, N)) (hin : ∀ w ∈ u_ws Cn T N, w ∈ Ts) (hsl : sl < N) (hk8 : k < 8) (hw : Cond.fieldLink own idx ref (T sl).2.1 (T sl).2.2.1 ∈ Ts) (hsame : ∀ x, s.fieldFound? (T sl).1 (T sl).2.1 (T sl).2.2.1 = some x → s.fieldFound? ref (T sl).2.1 (T sl).2.2.1 = some x) (hf : (bb_ft k)[sl]? = some (some (k2, g))) (hg : ∀ i, i < bb_cnt k → g i < bb_cnt k2) : bb_Snd p l e R s m args below meth c D bs ad aI aC aS Rp C pc (bo_getR k k2 g (pc + 3)) := by
  intro ls st M h
  unfold bo_getR at h
  split at h
  · rename_i k' i st
    intro hok H locs la hl hW hS
    rw [bb_do_if] at h
    obtain ⟨rfl, h⟩ := h
    obtain ⟨q0, hq⟩ := bb_pos (k := k') (i := i) (by omega) (bb_okh hok)
    have hat := bb_WS_at (ad := ad) (aI := aI) (aC := aC) (aS := aS) (M := M) hq
    rw [bb_ce_o hk8] at hat
    refine va_get hx.1 hx.2.1 hx.2.2.2.1 hin hx.2.2.1 hx.2.2.2.2.1 hW.1 q0 hat hcl sl hsl (hx.2.2.2.1 _ hw) hsame (v := .ref (ad k2 (g i))) ?_ hd (h (bb_okc (hg i (bb_okh hok)) (bb_okt hok)) H locs la hl hW hS)
    exact bb_fls_ref _ 0 sl hf
  · exact h.elim
theorem sd_putI (hx : bb_Cx p s m args c D bs ad aI aC aS cc own Ts) {ty0 : Nat → FieldType} {idx k sl N : Nat} {T : u_T} {Cn ref : String} (hd : decode cc pc = .ok (.putfield idx, 3)) (hcl : bb_cls[k]? = some (Cn, T, N)) (hin : ∀ w ∈ u_ws Cn T N, w ∈ Ts) (hsl : sl < N) (hk8 : k < 8) (hw : Cond.fieldLink own idx ref (T sl).2.1 (T sl).2.2.1 ∈ Ts) (hsame : ∀ x, s.fieldFound? (T sl).1 (T sl).2.1 (T sl).2.2.1 = some x → s.fieldFound? ref (T sl).2.1 (T sl).2.2.1 = some x) (hf : (bb_ft k)[sl]? = some none) (hty : ∀ k, k < N → parseFieldDescriptor (T k).2.2.1 = some (ty0 k)) (hnm : ∀ a, a < N → ∀ b, b < N → a ≠ b → (T a).2.1 ≠ (T b).2.1) (hfin : (T sl).2.2.2 = false) (hds : parseFieldDescriptor (T sl).2.2.1 = some .int) : bb_Snd p l e R s m args below meth c D bs ad aI aC aS Rp C pc (bo_putI k sl (pc + 3)) := by
  intro ls st M h
  unfold bo_putI at h
  split at h
  · rename_i v k' i st
    intro hok H locs la hl hW hS
    rw [bb_do_if] at h
    obtain ⟨rfl, h⟩ := h
    obtain ⟨q0, hq⟩ := bb_pos (k := k') (i := i) (by omega) (bb_okh (bb_okt hok))
    have hat := bb_WS_at (ad := ad) (aI := aI) (aC := aC) (aS := aS) (M := M) hq
    rw [bb_ce_o hk8] at hat
    have hfl : sl < (bb_ft k').length := (List.getElem?_eq_some_iff.mp hf).1
    refine va_put hx.1 hx.2.1 hx.2.2.2.1 hin ty0 hty hnm hx.2.2.1 hx.2.2.2.2.1 hW.1 (bb_WS_D hx.2.2.2.2.2.1) hS q0 hat hcl sl hsl (hx.2.2.2.1 _ hw) hsame hfin (v := .int v) hds rfl rfl (by rw [bb_fls_len]; exact hfl) hd (fun H1 locs1 hP1 _ hS1 => ?_)
    refine h (bb_okt (bb_okt hok)) H1 locs1 la hl ⟨?_, bb_stc_up hW.2 (by omega)⟩ hS1
    have hset := bb_WS_set (ad := ad) (aI := aI) (aC := aC) (aS := aS) (M := M) (M' := bb_up M k' i sl v) (E := .inr (k', (bb_fls ad M k' i 0 (bb_ft k')).set sl (.int v))) hq (by rw [bb_ce_o hk8, bb_fls_up _ 0 sl hf, Nat.zero_add]) bb_up_o
    rw [← hset]
    exact hP1
  · exact h.elim
theorem sd_putZ (hx : bb_Cx p s m args c D bs ad aI aC aS cc own Ts) {ty0 : Nat → FieldType} {idx k sl N : Nat} {T : u_T} {Cn ref : String} (hd : decode cc pc = .ok (.putfield idx, 3)) (hcl : bb_cls[k]? = some (Cn, T, N)) (hin : ∀ w ∈ u_ws Cn T N, w ∈ Ts) (hsl : sl < N) (hk8 : k < 8) (hw : Cond.fieldLink own idx ref (T sl).2.1 (T sl).2.2.1 ∈ Ts) (hsame : ∀ x, s.fieldFound? (T sl).1 (T sl).2.1 (T sl).2.2.1 = some x → s.fieldFound? ref (T sl).2.1 (T sl).2.2.1 = some x) (hf : (bb_ft k)[sl]? = some none) (hty : ∀ k, k < N → parseFieldDescriptor (T k).2.2.1 = some (ty0 k)) (hnm : ∀ a, a < N → ∀ b, b < N → a ≠ b → (T a).2.1 ≠ (T b).2.1) (hfin : (T sl).2.2.2 = false) (hds : parseFieldDescriptor (T sl).2.2.1 = some .boolean) : bb_Snd p l e R s m args below meth c D bs ad aI aC aS Rp C pc (bo_putZ k sl (pc + 3)) := by
  intro ls st M h
  unfold bo_putZ at h
  split at h
  · rename_i v k' i st
    intro hok H locs la hl hW hS
    rw [bb_do_if] at h
    obtain ⟨⟨rfl, hv01⟩, h⟩ := h
    obtain ⟨q0, hq⟩ := bb_pos (k := k') (i := i) (by omega) (bb_okh (bb_okt hok))
    have hat := bb_WS_at (ad := ad) (aI := aI) (aC := aC) (aS := aS) (M := M) hq
    rw [bb_ce_o hk8] at hat
    have hfl : sl < (bb_ft k').length := (List.getElem?_eq_some_iff.mp hf).1
    refine va_put hx.1 hx.2.1 hx.2.2.2.1 hin ty0 hty hnm hx.2.2.1 hx.2.2.2.2.1 hW.1 (bb_WS_D hx.2.2.2.2.2.1) hS q0 hat hcl sl hsl (hx.2.2.2.1 _ hw) hsame hfin (v := .int v) hds (by rcases hv01 with rfl | rfl <;> rfl) (by rcases hv01 with rfl | rfl <;> rfl) (by rw [bb_fls_len]; exact hfl) hd (fun H1 locs1 hP1 _ hS1 => ?_)
    refine h (bb_okt (bb_okt hok)) H1 locs1 la hl ⟨?_, bb_stc_up hW.2 (by omega)⟩ hS1
    have hset := bb_WS_set (ad := ad) (aI := aI) (aC := aC) (aS := aS) (M := M) (M' := bb_up M k' i sl v) (E := .inr (k', (bb_fls ad M k' i 0 (bb_ft k')).set sl (.int v))) hq (by rw [bb_ce_o hk8, bb_fls_up _ 0 sl hf, Nat.zero_add]) bb_up_o
    rw [← hset]
    exact hP1
  · exact h.elim
theorem sd_getIN (hx : bb_Cx p s m args c D bs ad aI aC aS cc own Ts) {idx k sl N : Nat} {T : u_T} {Cn ref host : String} (hd : decode cc pc = .ok (.getfield idx, 3)) (hcl : bb_cls[k]? = some (Cn, T, N)) (hin : ∀ w ∈ u_ws Cn T N, w ∈ Ts) (hsl : sl < N) (hk8 : k < 8) (hw : (own, idx, ref, (T sl).2.1, (T sl).2.2.1, host) ∈ bb_NL) (hsame : ∀ x, s.fieldFound? (T sl).1 (T sl).2.1 (T sl).2.2.1 = some x → s.fieldFound? ref (T sl).2.1 (T sl).2.2.1 = some x) (hf : (bb_ft k)[sl]? = some none) : bb_Snd p l e R s m args below meth c D bs ad aI aC aS Rp C pc (bo_getI k sl (pc + 3)) := by
  intro ls st M h
  unfold bo_getI at h
  split at h
  · rename_i k' i st
    intro hok H locs la hl hW hS
    rw [bb_do_if] at h
    obtain ⟨rfl, h⟩ := h
    obtain ⟨q0, hq⟩ := bb_pos (k := k') (i := i) (by omega) (bb_okh hok)
    have hat := bb_WS_at (ad := ad) (aI := aI) (aC := aC) (aS := aS) (M := M) hq
    rw [bb_ce_o hk8] at hat
    refine va_getN hx.1 hx.2.1 hx.2.2.2.1 hin hx.2.2.1 hx.2.2.2.2.1 hW.1 q0 hat hcl sl hsl (va_Nw.use rfl (hx.2.2.2.2.2.2.2.2.2.2.2 _ hw)) hsame (v := .int (M k' i sl)) ?_ hd (h (bb_okc trivial (bb_okt hok)) H locs la hl hW hS)
    have := bb_fls_int (ad := ad) (M := M) (k := k') (i := i) _ 0 sl hf
    rwa [Nat.zero_add] at this
  · exact h.elim
theorem sd_getRN (hx : bb_Cx p s m args c D bs ad aI aC aS cc own Ts) {k2 : Nat} {g : Nat → Nat} {idx k sl N : Nat} {T : u_T} {Cn ref host : String} (hd : decode cc pc = .ok (.getfield idx, 3)) (hcl : bb_cls[k]? = some (Cn, T, N)) (hin : ∀ w ∈ u_ws Cn T N, w ∈ Ts) (hsl : sl < N) (hk8 : k < 8) (hw : (own, idx, ref, (T sl).2.1, (T sl).2.2.1, host) ∈ bb_NL) (hsame : ∀ x, s.fieldFound? (T sl).1 (T sl).2.1 (T sl).2.2.1 = some x → s.fieldFound? ref (T sl).2.1 (T sl).2.2.1 = some x) (hf : (bb_ft k)[sl]? = some (some (k2, g))) (hg : ∀ i, i < bb_cnt k → g i < bb_cnt k2) : bb_Snd p l e R s m args below meth c D bs ad aI aC aS Rp C pc (bo_getR k k2 g (pc + 3)) := by
  intro ls st M h
  unfold bo_getR at h
  split at h
  · rename_i k' i st
    intro hok H locs la hl hW hS
    rw [bb_do_if] at h
    obtain ⟨rfl, h⟩ := h
    obtain ⟨q0, hq⟩ := bb_pos (k := k') (i := i) (by omega) (bb_okh hok)
    have hat := bb_WS_at (ad := ad) (aI := aI) (aC := aC) (aS := aS) (M := M) hq
    rw [bb_ce_o hk8] at hat
    refine va_getN hx.1 hx.2.1 hx.2.2.2.1 hin hx.2.2.1 hx.2.2.2.2.1 hW.1 q0 hat hcl sl hsl (va_Nw.use rfl (hx.2.2.2.2.2.2.2.2.2.2.2 _ hw)) hsame (v := .ref (ad k2 (g i))) ?_ hd (h (bb_okc (hg i (bb_okh hok)) (bb_okt hok)) H locs la hl hW hS)
    exact bb_fls_ref _ 0 sl hf
  · exact h.elim
theorem sd_putIN (hx : bb_Cx p s m args c D bs ad aI aC aS cc own Ts) {ty0 : Nat → FieldType} {idx k sl N : Nat} {T : u_T} {Cn ref host : String} (hd : decode cc pc = .ok (.putfield idx, 3)) (hcl : bb_cls[k]? = some (Cn, T, N)) (hin : ∀ w ∈ u_ws Cn T N, w ∈ Ts) (hsl : sl < N) (hk8 : k < 8) (hw : (own, idx, ref, (T sl).2.1, (T sl).2.2.1, host) ∈ bb_NL) (hsame : ∀ x, s.fieldFound? (T sl).1 (T sl).2.1 (T sl).2.2.1 = some x → s.fieldFound? ref (T sl).2.1 (T sl).2.2.1 = some x) (hf : (bb_ft k)[sl]? = some none) (hty : ∀ k, k < N → parseFieldDescriptor (T k).2.2.1 = some (ty0 k)) (hnm : ∀ a, a < N → ∀ b, b < N → a ≠ b → (T a).2.1 ≠ (T b).2.1) (hfin : (T sl).2.2.2 = false) (hds : parseFieldDescriptor (T sl).2.2.1 = some .int) : bb_Snd p l e R s m args below meth c D bs ad aI aC aS Rp C pc (bo_putI k sl (pc + 3)) := by
  intro ls st M h
  unfold bo_putI at h
  split at h
  · rename_i v k' i st
    intro hok H locs la hl hW hS
    rw [bb_do_if] at h
    obtain ⟨rfl, h⟩ := h
    obtain ⟨q0, hq⟩ := bb_pos (k := k') (i := i) (by omega) (bb_okh (bb_okt hok))
    have hat := bb_WS_at (ad := ad) (aI := aI) (aC := aC) (aS := aS) (M := M) hq
    rw [bb_ce_o hk8] at hat
    have hfl : sl < (bb_ft k').length := (List.getElem?_eq_some_iff.mp hf).1
    refine va_putN hx.1 hx.2.1 hx.2.2.2.1 hin ty0 hty hnm hx.2.2.1 hx.2.2.2.2.1 hW.1 (bb_WS_D hx.2.2.2.2.2.1) hS q0 hat hcl sl hsl (va_Nw.use rfl (hx.2.2.2.2.2.2.2.2.2.2.2 _ hw)) hsame hfin (v := .int v) hds rfl rfl (by rw [bb_fls_len]; exact hfl) hd (fun H1 locs1 hP1 _ hS1 => ?_)
    refine h (bb_okt (bb_okt hok)) H1 locs1 la hl ⟨?_, bb_stc_up hW.2 (by omega)⟩ hS1
    have hset := bb_WS_set (ad := ad) (aI := aI) (aC := aC) (aS := aS) (M := M) (M' := bb_up M k' i sl v) (E := .inr (k', (bb_fls ad M k' i 0 (bb_ft k')).set sl (.int v))) hq (by rw [bb_ce_o hk8, bb_fls_up _ 0 sl hf, Nat.zero_add]) bb_up_o
    rw [← hset]
    exact hP1
  · exact h.elim
theorem sd_putZN (hx : bb_Cx p s m args c D bs ad aI aC aS cc own Ts) {ty0 : Nat → FieldType} {idx k sl N : Nat} {T : u_T} {Cn ref host : String} (hd : decode cc pc = .ok (.putfield idx, 3)) (hcl : bb_cls[k]? = some (Cn, T, N)) (hin : ∀ w ∈ u_ws Cn T N, w ∈ Ts) (hsl : sl < N) (hk8 : k < 8) (hw : (own, idx, ref, (T sl).2.1, (T sl).2.2.1, host) ∈ bb_NL) (hsame : ∀ x, s.fieldFound? (T sl).1 (T sl).2.1 (T sl).2.2.1 = some x → s.fieldFound? ref (T sl).2.1 (T sl).2.2.1 = some x) (hf : (bb_ft k)[sl]? = some none) (hty : ∀ k, k < N → parseFieldDescriptor (T k).2.2.1 = some (ty0 k)) (hnm : ∀ a, a < N → ∀ b, b < N → a ≠ b → (T a).2.1 ≠ (T b).2.1) (hfin : (T sl).2.2.2 = false) (hds : parseFieldDescriptor (T sl).2.2.1 = some .boolean) : bb_Snd p l e R s m args below meth c D bs ad aI aC aS Rp C pc (bo_putZ k sl (pc + 3)) := by
  intro ls st M h
  unfold bo_putZ at h
  split at h
  · rename_i v k' i st
    intro hok H locs la hl hW hS
    rw [bb_do_if] at h
    obtain ⟨⟨rfl, hv01⟩, h⟩ := h
    obtain ⟨q0, hq⟩ := bb_pos (k := k') (i := i) (by omega) (bb_okh (bb_okt hok))
    have hat := bb_WS_at (ad := ad) (aI := aI) (aC := aC) (aS := aS) (M := M) hq
    rw [bb_ce_o hk8] at hat
    have hfl : sl < (bb_ft k').length := (List.getElem?_eq_some_iff.mp hf).1
    refine va_putN hx.1 hx.2.1 hx.2.2.2.1 hin ty0 hty hnm hx.2.2.1 hx.2.2.2.2.1 hW.1 (bb_WS_D hx.2.2.2.2.2.1) hS q0 hat hcl sl hsl (va_Nw.use rfl (hx.2.2.2.2.2.2.2.2.2.2.2 _ hw)) hsame hfin (v := .int v) hds (by rcases hv01 with rfl | rfl <;> rfl) (by rcases hv01 with rfl | rfl <;> rfl) (by rw [bb_fls_len]; exact hfl) hd (fun H1 locs1 hP1 _ hS1 => ?_)
    refine h (bb_okt (bb_okt hok)) H1 locs1 la hl ⟨?_, bb_stc_up hW.2 (by omega)⟩ hS1
    have hset := bb_WS_set (ad := ad) (aI := aI) (aC := aC) (aS := aS) (M := M) (M' := bb_up M k' i sl v) (E := .inr (k', (bb_fls ad M k' i 0 (bb_ft k')).set sl (.int v))) hq (by rw [bb_ce_o hk8, bb_fls_up _ 0 sl hf, Nat.zero_add]) bb_up_o
    rw [← hset]
    exact hP1
  · exact h.elim
theorem sd_iald (hx : bb_Cx p s m args c D bs ad aI aC aS cc own Ts) (hd : decode cc pc = .ok (.iaload, 1)) : bb_Snd p l e R s m args below meth c D bs ad aI aC aS Rp C pc (bo_iald (pc + 1)) := by
  intro ls st M h
  unfold bo_iald at h
  split at h
  · rename_i j k i st
    intro hok H locs la hl hW hS
    rw [bb_do_if] at h
    obtain ⟨⟨hia, hj⟩, h⟩ := h
    have hK := hx.2.2.2.2.1
    have hi : i < bb_cnt k := bb_okh (bb_okt hok)
    obtain ⟨f1, f2, f3, f4⟩ := bb_ia_f hia
    by_cases hk30 : k < 30
    · obtain ⟨q0, hq⟩ := bb_pos hk30 hi
      have hat := bb_WS_at (ad := ad) (aI := aI) (aC := aC) (aS := aS) (M := M) hq
      rw [bb_ce_i hia] at hat
      exact va_iald hx.1 hx.2.1 hK hW.1 q0 0 hat rfl hj hd (h (bb_okc trivial (bb_okt (bb_okt hok))) H locs la hl hW hS)
    · have hi0 : i = 0 ∧ bb_len k = 4 := by
        rcases (show k = 30 ∨ k = 31 ∨ k = 32 by omega) with rfl | rfl | rfl <;> exact ⟨Nat.lt_one_iff.mp hi, rfl⟩
      have hj4 : vp_in j 4 := by rw [← hi0.2]; exact hj
      have hlt : j.toNatClampNeg < 4 := Nat.not_le.mp fun q => hj4 (Or.inr q)
      have e1 := hW.2 k (by omega) f2 _ hlt
      rw [hi0.1] at h ⊢
      rw [e1] at h
      exact va_ti hx.1 hx.2.1 (hx.2.2.2.2.2.2.1 k (by omega) f2) hS hj4 rfl hd (h (bb_okc trivial (bb_okt (bb_okt hok))) H locs la hl hW hS)
  · exact h.elim
theorem sd_iast (hx : bb_Cx p s m args c D bs ad aI aC aS cc own Ts) (hd : decode cc pc = .ok (.iastore, 1)) : bb_Snd p l e R s m args below meth c D bs ad aI aC aS Rp C pc (bo_iast (pc + 1)) := by
  intro ls st M h
  unfold bo_iast at h
  split at h
  · rename_i v j k i st
    intro hok H locs la hl hW hS
    rw [bb_do_if] at h
    obtain ⟨⟨⟨hia, hk30⟩, hj⟩, h⟩ := h
    have hi : i < bb_cnt k := bb_okh (bb_okt (bb_okt hok))
    obtain ⟨q0, hq⟩ := bb_pos hk30 hi
    have hat := bb_WS_at (ad := ad) (aI := aI) (aC := aC) (aS := aS) (M := M) hq
    rw [bb_ce_i hia] at hat
    refine va_iast hx.1 hx.2.1 hx.2.2.2.2.1 hW.1 (bb_WS_D hx.2.2.2.2.2.1) hS q0 0 hat rfl hj hd (fun H1 locs1 hP1 _ hS1 => ?_)
    refine h (bb_okt (bb_okt (bb_okt hok))) H1 locs1 la hl ⟨?_, bb_stc_up hW.2 hk30⟩ hS1
    rw [← bb_WS_set (ad := ad) (aI := aI) (aC := aC) (aS := aS) (M := M) (M' := bb_up M k i j.toNatClampNeg v) hq (by rw [bb_ce_i hia, bb_up_a]) bb_up_o]
    exact hP1
  · exact h.elim
theorem sd_cald (hx : bb_Cx p s m args c D bs ad aI aC aS cc own Ts) (hd : decode cc pc = .ok (.caload, 1)) : bb_Snd p l e R s m args below meth c D bs ad aI aC aS Rp C pc (bo_cald (pc + 1)) := by
  intro ls st M h
  unfold bo_cald at h
  split at h
  · rename_i j k i st
    intro hok H locs la hl hW hS
    rw [bb_do_if] at h
    obtain ⟨⟨rfl, hj⟩, h⟩ := h
    obtain ⟨q0, hq⟩ := bb_pos (k := 17) (i := i) (by omega) (bb_okh (bb_okt hok))
    have hat := bb_WS_at (ad := ad) (aI := aI) (aC := aC) (aS := aS) (M := M) hq
    exact va_cald hx.1 hx.2.1 hx.2.2.2.2.1 hW.1 q0 1 hat rfl hj hd (h (bb_okc trivial (bb_okt (bb_okt hok))) H locs la hl hW hS)
  · exact h.elim
theorem sd_cast (hx : bb_Cx p s m args c D bs ad aI aC aS cc own Ts) (hd : decode cc pc = .ok (.castore, 1)) : bb_Snd p l e R s m args below meth c D bs ad aI aC aS Rp C pc (bo_cast (pc + 1)) := by
  intro ls st M h
  unfold bo_cast at h
  split at h
  · rename_i v j k i st
    intro hok H locs la hl hW hS
    rw [bb_do_if] at h
    obtain ⟨⟨rfl, hj⟩, h⟩ := h
    obtain ⟨q0, hq⟩ := bb_pos (k := 17) (i := i) (by omega) (bb_okh (bb_okt (bb_okt hok)))
    have hat := bb_WS_at (ad := ad) (aI := aI) (aC := aC) (aS := aS) (M := M) hq
    refine va_cast hx.1 hx.2.1 hx.2.2.2.2.1 hW.1 (bb_WS_D hx.2.2.2.2.2.1) hS q0 1 hat rfl hj hd (fun H1 locs1 hP1 _ hS1 => ?_)
    refine h (bb_okt (bb_okt (bb_okt hok))) H1 locs1 la hl ⟨?_, bb_stc_up hW.2 (by omega)⟩ hS1
    rw [← bb_WS_set (ad := ad) (aI := aI) (aC := aC) (aS := aS) (M := M) (M' := bb_up M 17 i j.toNatClampNeg (vp_nar .char v)) hq (by unfold bb_ce; rw [if_neg (by omega), if_pos rfl, bb_up_a]) bb_up_o]
    exact hP1
  · exact h.elim
theorem sd_aald (hx : bb_Cx p s m args c D bs ad aI aC aS cc own Ts) (hd : decode cc pc = .ok (.aaload, 1)) : bb_Snd p l e R s m args below meth c D bs ad aI aC aS Rp C pc (bo_aald (pc + 1)) := by
  intro ls st M h
  unfold bo_aald at h
  split at h
  · rename_i j k i st
    intro hok H locs la hl hW hS
    rw [bb_do_if] at h
    obtain ⟨⟨rfl, hj⟩, h⟩ := h
    obtain ⟨q0, hq⟩ := bb_pos (k := 20) (i := i) (by omega) (bb_okh (bb_okt hok))
    have hat := bb_WS_at (ad := ad) (aI := aI) (aC := aC) (aS := aS) (M := M) hq
    have hlt : j.toNatClampNeg < 4 := Nat.not_le.mp fun q => hj (Or.inr q)
    exact va_aldq hx.1 hx.2.1 hx.2.2.2.2.1 hW.1 q0 2 hat rfl hj hd (h (bb_okc (show 3 + j.toNatClampNeg < 7 by omega) (bb_okt (bb_okt hok))) H locs la hl hW hS)
  · exact h.elim
theorem sd_alen (hx : bb_Cx p s m args c D bs ad aI aC aS cc own Ts) (hd : decode cc pc = .ok (.arraylength, 1)) : bb_Snd p l e R s m args below meth c D bs ad aI aC aS Rp C pc (bo_alen (pc + 1)) := by
  intro ls st M h
  unfold bo_alen at h
  split at h
  · rename_i k i st
    intro hok H locs la hl hW hS
    rw [bb_do_if] at h
    obtain ⟨hia, h⟩ := h
    have hi : i < bb_cnt k := bb_okh hok
    obtain ⟨f1, f2, f3, f4⟩ := bb_ia_f hia
    by_cases hk30 : k < 30
    · obtain ⟨q0, hq⟩ := bb_pos hk30 hi
      have hat := bb_WS_at (ad := ad) (aI := aI) (aC := aC) (aS := aS) (M := M) hq
      rw [bb_ce_i hia] at hat
      exact va_alen hx.1 hx.2.1 hx.2.2.2.2.1 hW.1 q0 0 hat rfl rfl hd (h (bb_okc trivial (bb_okt hok)) H locs la hl hW hS)
    · have hi0 : i = 0 ∧ bb_len k = 4 := by
        rcases (show k = 30 ∨ k = 31 ∨ k = 32 by omega) with rfl | rfl | rfl <;> exact ⟨Nat.lt_one_iff.mp hi, rfl⟩
      rw [hi0.1]
      rw [hi0.2] at h
      exact va_tlen hx.1 hx.2.1 (hx.2.2.2.2.2.2.1 k (by omega) f2) hS rfl hd (h (bb_okc trivial (bb_okt hok)) H locs la hl hW hS)
  · exact h.elim
theorem sd_getS30 (hx : bb_Cx p s m args c D bs ad aI aC aS cc own Ts) {idx : Nat} (hd : decode cc pc = .ok (.getstatic idx, 3)) (hw : Cond.fieldLink own idx "BeachBars" "LEAST_SETTING" "[I" ∈ Ts) : bb_Snd p l e R s m args below meth c D bs ad aI aC aS Rp C pc (bo_getS 30 (pc + 3)) := by
  intro ls st M h hok H locs la hl hW hS
  exact va_gets hx.1 hx.2.1 hx.2.2.2.2.2.2.2.1.1 hS hx.2.2.1 (hx.2.2.2.1 _ hw) (fun _ h9 => h9) hd (h (bb_okc (show 0 < 1 by omega) hok) H locs la hl hW hS)
theorem sd_getS31 (hx : bb_Cx p s m args c D bs ad aI aC aS cc own Ts) {idx : Nat} (hd : decode cc pc = .ok (.getstatic idx, 3)) (hw : Cond.fieldLink own idx "BeachBars" "MOST_SETTING" "[I" ∈ Ts) : bb_Snd p l e R s m args below meth c D bs ad aI aC aS Rp C pc (bo_getS 31 (pc + 3)) := by
  intro ls st M h hok H locs la hl hW hS
  exact va_gets hx.1 hx.2.1 hx.2.2.2.2.2.2.2.1.2 hS hx.2.2.1 (hx.2.2.2.1 _ hw) (fun _ h9 => h9) hd (h (bb_okc (show 0 < 1 by omega) hok) H locs la hl hW hS)
theorem bb_cp_o {M : bb_M} {k0 i0 k1 i1 sp dp n : Nat} (k' i' : Nat) (h : (k', i') ≠ (k1, i1)) (j' : Nat) : bb_cp M k0 i0 k1 i1 sp dp n k' i' j' = M k' i' j' := by
  unfold bb_cp
  rw [if_neg]
  rintro ⟨rfl, rfl, -⟩
  exact h rfl
theorem bb_cp_a {M : bb_M} {k0 i0 k1 i1 sp dp n : Nat} : bb_cp M k0 i0 k1 i1 sp dp n k1 i1 = va_cpy (M k0 i0) (M k1 i1) sp dp n := by
  funext q
  unfold bb_cp va_cpy
  by_cases h : dp ≤ q ∧ q < dp + n
  · rw [if_pos h, if_pos ⟨rfl, rfl, h⟩]
  · rw [if_neg h, if_neg (fun z => h z.2.2)]
theorem sd_acopy (hx : bb_Cx p s m args c D bs ad aI aC aS cc own Ts) {idx : Nat} (hd : decode cc pc = .ok (.invokestatic idx, 3)) (hw : Cond.methodLink own idx arraycopyName ∈ Ts) (hw2 : Cond.native arraycopyName ∈ Ts) (hw3 : Cond.static arraycopyName ∈ Ts) (hw4 : Cond.initialized "java/lang/System" ∈ Ts) (hRf : 1 ≤ R.frames) (hRl : 8 + (nativeFrameWords "java/lang/System" "arraycopy" 5 + 11) ≤ R.locals) : bb_Snd p l e R s m args below meth c D bs ad aI aC aS Rp C pc (bo_acopy (pc + 3)) := by
  intro ls st M h
  unfold bo_acopy at h
  split at h
  · rename_i n0 dp k1 i1 sp k0 i0 st
    intro hok H locs la hl hW hS
    rw [bb_do_if] at h
    obtain ⟨⟨⟨⟨a0, a1⟩, a2, a3⟩, ⟨b1, b2, b3⟩, ⟨c1, c2⟩, hwt⟩, h⟩ := h
    have o1 : i1 < bb_cnt k1 := bb_okh (bb_okt (bb_okt hok))
    have o0 : i0 < bb_cnt k0 := bb_okh (bb_okt (bb_okt (bb_okt (bb_okt hok))))
    obtain ⟨q0, hq0⟩ := bb_pos a1 o0
    obtain ⟨q1, hq1⟩ := bb_pos a3 o1
    have hat0 := bb_WS_at (ad := ad) (aI := aI) (aC := aC) (aS := aS) (M := M) hq0
    have hat1 := bb_WS_at (ad := ad) (aI := aI) (aC := aC) (aS := aS) (M := M) hq1
    rw [bb_ce_i a0] at hat0
    rw [bb_ce_i a2] at hat1
    refine va_copyi hx.1 hx.2.1 hl.2.1.2.symm hx.2.2.1 (hx.2.2.2.1 _ hw) (hx.2.2.2.1 _ hw2) (hx.2.2.2.1 _ hw3) (hx.2.2.2.1 _ hw4) hx.2.2.2.2.1 hW.1 (bb_WS_D hx.2.2.2.2.2.1) hS q0 q1 0 0 (ty := .int) hat0 hat1 rfl rfl rfl b1 b2 b3 c1 c2 (fun _ _ => rfl) hRf (by rw [bb_wt_sum]; omega) hd (fun H1 locs1 hP1 _ hS1 => ?_)
    have hstc : bb_stc (bb_cp M k0 i0 k1 i1 sp.toNatClampNeg dp.toNatClampNeg n0.toNatClampNeg) := by
      intro k' g1 g2 j' g3
      rw [bb_cp_o]
      · exact hW.2 k' g1 g2 j' g3
      · intro z
        cases z
        omega
    refine h (bb_okt (bb_okt (bb_okt (bb_okt (bb_okt hok))))) H1 locs1 la hl ⟨?_, hstc⟩ hS1
    rw [← bb_WS_set (ad := ad) (aI := aI) (aC := aC) (aS := aS) (M := M) (M' := bb_cp M k0 i0 k1 i1 sp.toNatClampNeg dp.toNatClampNeg n0.toNatClampNeg) hq1 (by rw [bb_ce_i a2, bb_cp_a]) bb_cp_o]
    exact hP1
  · exact h.elim
theorem sd_imin (hx : bb_Cx p s m args c D bs ad aI aC aS cc own Ts) {idx : Nat} (hd : decode cc pc = .ok (.invokestatic idx, 3)) (hw : Cond.methodLink own idx Lib.Math.min.name ∈ Ts) (hw2 : Cond.static Lib.Math.min.name ∈ Ts) (hw3 : Cond.initialized "java/lang/Math" ∈ Ts) (hw4 : Cond.code Lib.Math.min.name Lib.Math.min.code 2 (some .int) ∈ Ts) (hRf : 1 ≤ R.frames) (hRl : 21 ≤ R.locals) : bb_Snd p l e R s m args below meth c D bs ad aI aC aS Rp C pc (bo_imin (pc + 3)) := by
  intro ls st M h
  unfold bo_imin at h
  split at h
  · rename_i b a st
    intro hok H locs la hl hW hS
    rw [bb_do_if] at h
    obtain ⟨hwt8, h⟩ := h
    exact va_mmin hx.1 hx.2.1 hl.2.1.2.symm hx.2.2.1 (hx.2.2.2.1 _ hw) (hx.2.2.2.1 _ hw2) (hx.2.2.2.1 _ hw3) (hx.2.2.2.1 _ hw4) hRf (by rw [bb_wt_sum]; omega) (Nat.zero_le _) (Nat.zero_le _) hd (h (bb_okc trivial (bb_okt (bb_okt hok))) H locs la hl hW hS)
  · exact h.elim
theorem sd_imax (hx : bb_Cx p s m args c D bs ad aI aC aS cc own Ts) {idx : Nat} (hd : decode cc pc = .ok (.invokestatic idx, 3)) (hw : Cond.methodLink own idx Lib.Math.max.name ∈ Ts) (hw2 : Cond.static Lib.Math.max.name ∈ Ts) (hw3 : Cond.initialized "java/lang/Math" ∈ Ts) (hw4 : Cond.code Lib.Math.max.name Lib.Math.max.code 2 (some .int) ∈ Ts) (hRf : 1 ≤ R.frames) (hRl : 21 ≤ R.locals) : bb_Snd p l e R s m args below meth c D bs ad aI aC aS Rp C pc (bo_imax (pc + 3)) := by
  intro ls st M h
  unfold bo_imax at h
  split at h
  · rename_i b a st
    intro hok H locs la hl hW hS
    rw [bb_do_if] at h
    obtain ⟨hwt8, h⟩ := h
    exact va_mmax hx.1 hx.2.1 hl.2.1.2.symm hx.2.2.1 (hx.2.2.2.1 _ hw) (hx.2.2.2.1 _ hw2) (hx.2.2.2.1 _ hw3) (hx.2.2.2.1 _ hw4) hRf (by rw [bb_wt_sum]; omega) (Nat.zero_le _) (Nat.zero_le _) hd (h (bb_okc trivial (bb_okt (bb_okt hok))) H locs la hl hW hS)
  · exact h.elim
theorem sd_iabs (hx : bb_Cx p s m args c D bs ad aI aC aS cc own Ts) {idx : Nat} (hd : decode cc pc = .ok (.invokestatic idx, 3)) (hw : Cond.methodLink own idx Lib.Math.abs.name ∈ Ts) (hw2 : Cond.static Lib.Math.abs.name ∈ Ts) (hw3 : Cond.initialized "java/lang/Math" ∈ Ts) (hw4 : Cond.code Lib.Math.abs.name Lib.Math.abs.code 1 (some .int) ∈ Ts) (hRf : 1 ≤ R.frames) (hRl : 21 ≤ R.locals) : bb_Snd p l e R s m args below meth c D bs ad aI aC aS Rp C pc (bo_iabs (pc + 3)) := by
  intro ls st M h
  unfold bo_iabs at h
  split at h
  · rename_i a st
    intro hok H locs la hl hW hS
    rw [bb_do_if] at h
    obtain ⟨hwt8, h⟩ := h
    exact va_mabs hx.1 hx.2.1 hl.2.1.2.symm hx.2.2.1 (hx.2.2.2.1 _ hw) (hx.2.2.2.1 _ hw2) (hx.2.2.2.1 _ hw3) (hx.2.2.2.1 _ hw4) hRf (by rw [bb_wt_sum]; omega) (Nat.zero_le _) (Nat.zero_le _) hd (h (bb_okc trivial (bb_okt hok)) H locs la hl hW hS)
  · exact h.elim
theorem sd_iret (hx : bb_Cx p s m args c D bs ad aI aC aS cc own Ts) (hd : decode cc pc = .ok (.ireturn, 1)) (hr : meth.sig.returnType = some .int) (hlk : meth.locks = false) : bb_Snd p l e R s m args below meth c D bs ad aI aC aS Rp C pc bo_iret := by
  intro ls st M h
  unfold bo_iret at h
  split at h
  · rename_i v
    intro hok H locs la hl hW hS
    exact W.iret (v := v) hx.1 hx.2.1 hr (fun t ht _ => ⟨⟨some (.inl v), M, h, (fun u hu => by cases hu; trivial), rfl, by rw [ht]; exact hW⟩, hS.F ht⟩) hS.2.2 hd hlk
  · exact h.elim
theorem sd_zret (hx : bb_Cx p s m args c D bs ad aI aC aS cc own Ts) (hd : decode cc pc = .ok (.ireturn, 1)) (hr : meth.sig.returnType = some .boolean) (hlk : meth.locks = false) : bb_Snd p l e R s m args below meth c D bs ad aI aC aS Rp C pc bo_zret := by
  intro ls st M h
  unfold bo_zret at h
  split at h
  · rename_i v
    rw [bb_do_if] at h
    obtain ⟨hv, h⟩ := h
    intro hok H locs la hl hW hS
    exact W.zret (v := v) hx.1 hx.2.1 hr (by rcases hv with rfl | rfl <;> rfl) (fun t ht _ => ⟨⟨some (.inl v), M, h, (fun u hu => by cases hu; trivial), rfl, by rw [ht]; exact hW⟩, hS.F ht⟩) hS.2.2 hd hlk
  · exact h.elim
theorem sd_ret (hx : bb_Cx p s m args c D bs ad aI aC aS cc own Ts) (hd : decode cc pc = .ok (.return_, 1)) (hr : meth.sig.returnType = none) (hlk : meth.locks = false) : bb_Snd p l e R s m args below meth c D bs ad aI aC aS Rp C pc bo_ret := by
  intro ls st M h
  unfold bo_ret at h
  split at h
  · intro hok H locs la hl hW hS
    exact W.vret hx.1 hx.2.1 hr (fun t ht _ => ⟨⟨none, M, h, (fun u hu => by cases hu), rfl, by rw [ht]; exact hW⟩, hS.F ht⟩) hS.2.2 hd hlk
  · exact h.elim
theorem sd_aret (hx : bb_Cx p s m args c D bs ad aI aC aS cc own Ts) {nmO : String} (hd : decode cc pc = .ok (.areturn, 1)) (hr : meth.sig.returnType = some (.object nmO)) (hlk : meth.locks = false) : bb_Snd p l e R s m args below meth c D bs ad aI aC aS Rp C pc bo_aret := by
  intro ls st M h
  unfold bo_aret at h
  split at h
  · rename_i r
    intro hok H locs la hl hW hS
    exact W.aret (v := .ref (ad r.1 r.2)) hx.1 hx.2.1 hr (Or.inl ⟨_, rfl⟩) (Or.inr ⟨_, rfl⟩) (fun t ht _ => ⟨⟨some (.inr (.inr (.inl r))), M, h, (fun u hu => by cases hu; exact bb_okh hok), rfl, by rw [ht]; exact hW⟩, hS.F ht⟩) hS.2.2 hd hlk
  · exact h.elim
theorem sd_fail : bb_Snd p l e R s m args below meth c D bs ad aI aC aS Rp C pc bo_fail := fun _ _ _ h => h.elim
end SD
