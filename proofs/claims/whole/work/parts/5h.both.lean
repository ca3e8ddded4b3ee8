/-! BOTH SIDES -/
theorem bs_rep_a {M : bb_M} {i : Nat} {a a' : Nat → Int32} (h : bs_rep M i a) (hi : bs_inv a) (e : ∀ j, j < 311 → a' j = a j) : bs_rep M i a' := by
  obtain ⟨g1, g2, g3, g4, g5, g6, g7, g8⟩ := h
  have i7 := hi.2.2.2.2.2.2.1
  have i9 := hi.2.2.2.2.2.2.2.2
  have esz : bs_sz a' = bs_sz a := by unfold bs_sz; rw [e _ (by decide)]
  have etl : bs_tl a' = bs_tl a := by unfold bs_tl; rw [e _ (by decide)]
  refine ⟨fun j hj => ?_, ?_, fun j hj => ?_, ?_, ?_, fun j hj => ?_, ?_, ?_⟩
  · rw [e _ (by omega)]; exact g1 j hj
  · rw [e _ (by omega)]; exact g2
  · rw [e _ (by omega)]; exact g3 j hj
  · rw [e _ (by omega)]; exact g4
  · rw [esz]
    intro j hj
    rw [e _ (by omega), e _ (by omega)]; exact g5 j hj
  · rw [e _ (by omega)]; exact g6 j hj
  · rw [e _ (by omega)]; exact g7
  · rw [etl]
    intro j hj
    rw [e _ (by omega)]; exact g8 j hj
theorem bs_inv_a {a a' : Nat → Int32} (h : bs_inv a) (e : ∀ j, j < 311 → a' j = a j) : bs_inv a' := by
  obtain ⟨h1, h2, h3, h4, h5, h6, h7, h8, h9⟩ := h
  have esz : bs_sz a' = bs_sz a := by unfold bs_sz; rw [e _ (by decide)]
  have etl : bs_tl a' = bs_tl a := by unfold bs_tl; rw [e _ (by decide)]
  refine ⟨fun j hj => ?_, ?_, ?_, ?_, ?_, ?_, ?_, ?_, ?_⟩
  · rw [e _ (by omega)]; exact h1 j hj
  · rw [e _ (by omega)]; exact h2
  · rw [e _ (by omega)]; exact h3
  · rw [e _ (by omega)]; exact h4
  · rw [e _ (by omega)]; exact h5
  · rw [e _ (by omega)]; exact h6
  · rw [esz, e _ (by omega)]; exact h7
  · rw [esz]
    intro j hj
    rw [e _ (by omega), e _ (by omega)]; exact h8 j hj
  · rw [etl, e _ (by omega)]; exact h9
theorem bs_CI_cls {M M' : bb_M} {S : bs_S} (h : bs_CI M S) (hf : bm_cls M M') : bs_CI M' S := by
  obtain ⟨h1, h2, h3, h4, h5, h6, h7⟩ := h
  have hr : ∀ i a, bs_inv a → bs_rep M i a → bs_rep M' i a := fun i a hi hr => bs_rep_i hr hi (fun k n hk => hf k i n (by
    unfold bb_skb at hk
    rw [decide_eq_true_eq] at hk
    omega))
  refine ⟨hr _ _ h2 h1, h2, ?_, ?_, fun z => ⟨hr _ _ (h5 z).2 (h5 z).1, (h5 z).2⟩, ⟨⟨?_, fun j hj => ?_⟩, h6.2⟩, fun j hj => ?_⟩
  · obtain ⟨g1, g2, nx, g3, g4, g5⟩ := h3
    exact ⟨g1, by rw [hf _ _ _ (by omega)]; exact g2, nx, g3, by rw [hf _ _ _ (by omega)]; exact g4, fun j hj => ⟨(g5 j hj).1, hr _ _ (g5 j hj).1 (g5 j hj).2⟩⟩
  · rw [hf _ _ _ (by omega)]; exact h4
  · rw [hf _ _ _ (by omega)]; exact h6.1.1
  · rw [hf _ _ _ (by omega)]; exact h6.1.2 j hj
  · rw [hf _ _ _ (by omega), hf _ _ _ (by omega)]; exact h7 j hj
theorem bm_MI_ref {M M' : bb_M} {S : bs_S} (h : bm_MI M S) (hf : bs_ref M M') : bm_MI M' S := by
  obtain ⟨h1, ⟨h2, h3, h4⟩, ⟨h5, h6⟩, ⟨⟨h7, h8⟩, h9⟩, h10⟩ := h
  refine ⟨fun j hj => ?_, ⟨h2, ?_, fun j hj k hk => ?_⟩, ⟨?_, fun z k hk => ?_⟩, ⟨⟨?_, fun j hj => ?_⟩, h9⟩, ?_⟩
  · rw [hf _ _ (by omega)]; exact h1 j hj
  · rw [hf _ _ (by omega)]; exact h3
  · rw [hf _ _ (by omega)]; exact h4 j hj k hk
  · rw [hf _ _ (by omega)]; exact h5
  · rw [hf _ _ (by omega)]; exact h6 z k hk
  · rw [hf _ _ (by omega)]; exact h7
  · rw [hf _ _ (by omega)]; exact h8 j hj
  · rw [hf _ _ (by omega)]; exact h10
/-- the memory holds a state, on both sides the same -/
def bb_JJ (M : bb_M) : Prop := ∃ S, bs_CI M S ∧ bm_MI M S ∧ M 21 0 = S.a
theorem bb_JJ_of {M : bb_M} {S : bs_S} (h1 : bs_CI M S) (h2 : bm_MI M S) : bb_JJ M := by
  obtain ⟨g1, g2, g3⟩ := h1
  exact ⟨⟨M 21 0, S.hs, S.hn, S.sT, S.sn, S.tx, S.tl⟩, ⟨bs_rep_a g1 g2 h2.1, bs_inv_a g2 h2.1, g3⟩, ⟨fun _ _ => rfl, h2.2⟩, rfl⟩
/-- both calls answer alike -/
def bb_same (yx yr : Nat) (as : List bb_V) (M : bb_M) : Prop := ∃ (v : Int32) (M1 M2 : bb_M), bb_CL 10 yx (bb_R 6 0 :: as) M (some (bb_I v)) M1 ∧ bb_CL 10 yr (bb_R 7 0 :: as) M1 (some (bb_I v)) M2 ∧ bb_JJ M2
theorem bb_of_call {C : bb_C} {y : Nat} {as : List bb_V} {M M' : bb_M} {r : Option bb_V} (h : ∀ k : Option bb_V → bb_M → Prop, bb_call C y as M k ↔ k r M') : C y as M r M' := by
  obtain ⟨r', M'', h1, h2, h3⟩ := (h (fun r' M'' => r' = r ∧ M'' = M')).mpr ⟨rfl, rfl⟩
  subst h2 h3
  exact h1
theorem bb_pair {yx yr : Nat} {as : List bb_V} {M : bb_M} (hJ : bb_JJ M) (sp : bs_S → Int32 × bs_S) (hx : ∀ S, bs_CI M S → bs_api 2 yx (bb_R 6 0 :: as) M (sp S)) (hr : ∀ M1 S, bm_MI M1 S → M1 21 0 = S.a → bs_inv S.a → bm_api 1 yr (bb_R 7 0 :: as) M1 (sp S)) : bb_same yx yr as M := by
  obtain ⟨S, h1, h2, h3⟩ := hJ
  obtain ⟨M1, x1, x2, x3⟩ := hx S h1
  have a1 : M1 21 0 = S.a := by
    rw [← h3]
    funext j
    exact x3 21 j (by omega)
  obtain ⟨M2, y1, y2, y3⟩ := hr M1 S (bm_MI_ref h2 x3) a1 h1.2.1
  exact ⟨_, M1, M2, bb_of_call x1, bb_of_call y1, bb_JJ_of (bs_CI_cls x2 y3) y2⟩
section BO
variable {M : bb_M} {x y z : Int32}
theorem b_dump (h : bb_JJ M) : bb_same 2 48 [bb_I x, bb_I y, bb_I z] M := bb_pair h (fun S => sp_dump S x y z) (fun _ h => c_dump h) (fun _ _ a b c => r_dump a b c)
theorem b_setLevel (h : bb_JJ M) : bb_same 3 50 [bb_I x] M := bb_pair h (fun S => sp_setLevel S x) (fun _ h => c_setLevel h) (fun _ _ a b c => r_setLevel a b)
theorem b_set (h : bb_JJ M) : bb_same 4 52 [bb_I x, bb_I y] M := bb_pair h (fun S => sp_set S x y) (fun _ h => c_set h) (fun _ _ a b c => r_set a b)
theorem b_wave (h : bb_JJ M) : bb_same 5 55 [bb_I x, bb_I y] M := bb_pair h (fun S => sp_wave S x y) (fun _ h => c_wave h) (fun _ _ a b c => r_wave a b c)
theorem b_waveAll (h : bb_JJ M) : bb_same 6 66 [] M := bb_pair h sp_waveAll (fun _ h => c_waveAll h) (fun _ _ a b c => r_waveAll a b c)
theorem b_strike (h : bb_JJ M) : bb_same 7 56 [bb_I x, bb_I y] M := bb_pair h (fun S => sp_strike S x y) (fun _ h => c_strike h) (fun _ _ a b c => r_strike a b c)
theorem b_run (h : bb_JJ M) : bb_same 8 57 [bb_I x] M := bb_pair h (fun S => sp_run S x) (fun _ h => c_run h) (fun _ _ a b c => r_run a b c)
theorem b_settle (h : bb_JJ M) : bb_same 9 58 [] M := bb_pair h sp_settle (fun _ h => c_settle h) (fun _ _ a b c => r_settle a b c)
theorem b_type (h : bb_JJ M) (hx : vp_nar .char x = x) : bb_same 10 59 [bb_I x] M := bb_pair h (fun S => sp_type S x) (fun _ h => c_type h) (fun _ _ a b c => r_type a hx)
theorem b_clearText (h : bb_JJ M) : bb_same 11 60 [] M := bb_pair h sp_clear (fun _ h => c_clearText h) (fun _ _ a b c => r_clearText a)
theorem b_undo (h : bb_JJ M) : bb_same 12 67 [] M := bb_pair h sp_undo (fun _ h => c_undo h) (fun _ _ a b c => r_undo a)
theorem b_keep (h : bb_JJ M) : bb_same 13 69 [] M := bb_pair h sp_keep (fun _ h => c_keep h) (fun _ _ a b c => r_keep a b)
theorem b_restore (h : bb_JJ M) : bb_same 14 70 [] M := bb_pair h sp_restore (fun _ h => c_restore h) (fun _ _ a b c => r_restore a b)
theorem b_cell (h : bb_JJ M) : bb_same 15 71 [bb_I x, bb_I y, bb_I z] M := bb_pair h (fun S => sp_cell S x y z) (fun _ h => c_cell h) (fun _ _ a b c => r_cell a b c)
theorem b_row (h : bb_JJ M) : bb_same 16 78 [bb_I x, bb_I y] M := bb_pair h (fun S => sp_row S x y) (fun _ h => c_row h) (fun _ _ a b c => r_row a b c)
theorem b_waiting (h : bb_JJ M) : bb_same 17 79 [bb_I x, bb_I y] M := bb_pair h (fun S => sp_waiting S x y) (fun _ h => c_waiting h) (fun _ _ a b c => r_waiting a b c)
theorem b_ended (h : bb_JJ M) : bb_same 18 80 [bb_I x, bb_I y] M := bb_pair h (fun S => sp_ended S x y) (fun _ h => c_ended h) (fun _ _ a b c => r_ended a b c)
theorem b_would (h : bb_JJ M) : bb_same 19 81 [bb_I x, bb_I y, bb_I z] M := bb_pair h (fun S => sp_would S x y z) (fun _ h => c_would h) (fun _ _ a b c => r_would a b c)
theorem b_sand (h : bb_JJ M) : bb_same 20 82 [bb_I x, bb_I y] M := bb_pair h (fun S => sp_sand S x y) (fun _ h => c_sand h) (fun _ _ a b c => r_sand a b)
theorem b_count (h : bb_JJ M) : bb_same 21 85 [bb_I x] M := bb_pair h (fun S => sp_count S x) (fun _ h => c_count h) (fun _ _ a b c => r_count a b c)
end BO
