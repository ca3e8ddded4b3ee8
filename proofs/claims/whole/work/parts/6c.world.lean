/-! WHAT THE CONSTRUCTORS MADE -/
def bk_adL (xb xm t30 t31 t32 : Nat) (u v : bk_U) : List (List Nat) := [[u 0 3], [u 1 1, u 4 1, u 7 1, u 11 1, u 14 1, u 17 1, u 20 1, u 23 1], [u 0 5], [u 1 0, u 4 0, u 7 0, u 11 0, u 14 0, u 17 0, u 20 0, u 0 6], [u 0 0, u 0 1, u 0 2, u 10 1, u 10 2, u 10 3, u 10 4], [u 0 4], [xb], [xm], [], [], [u 2 0, u 5 0, u 8 0, u 12 0, u 15 0, u 18 0, u 21 0, u 26 0], [u 2 1, u 5 1, u 8 1, u 12 1, u 15 1, u 18 1, u 21 1, u 26 1], [u 3 0, u 6 0, u 9 0, u 13 0, u 16 0, u 19 0, u 22 0, u 24 0], [u 3 1, u 6 1, u 9 1, u 13 1, u 16 1, u 19 1, u 22 1, u 24 1], [u 1 2, u 4 2, u 7 2, u 11 2, u 14 2, u 17 2, u 20 2], [u 1 3, u 4 3, u 7 3, u 11 3, u 14 3, u 17 3, u 20 3], [u 1 4, u 4 4, u 7 4, u 11 4, u 14 4, u 17 4, u 20 4], [u 23 0], [u 25 0], [u 0 7], [u 10 0], [v 0 0], [v 0 1], [v 0 2], [v 0 3], [v 0 4], [v 0 5], [v 0 6], [v 0 7], [v 0 8], [t30], [t31], [t32]]
def bk_ad (xb xm t30 t31 t32 : Nat) (u v : bk_U) : Nat → Nat → Nat := fun k i => ((bk_adL xb xm t30 t31 t32 u v).getD k []).getD i 0
def bk_M0 : bb_M := fun k _ => match k with
  | 4 => fun j => if j = 6 then 40 else 0
  | 10 => bk_hp 80
  | 14 => va_cpy (bb_cst 32) (fun _ => 0) 0 0 4
  | 21 => bk_all
  | 30 => bb_cst 30
  | 31 => bb_cst 31
  | 32 => bb_cst 32
  | _ => fun _ => 0
theorem bb_all_eq : bb_all = [(0, 0), (1, 0), (1, 1), (1, 2), (1, 3), (1, 4), (1, 5), (1, 6), (1, 7), (2, 0), (3, 0), (3, 1), (3, 2), (3, 3), (3, 4), (3, 5), (3, 6), (3, 7), (4, 0), (4, 1), (4, 2), (4, 3), (4, 4), (4, 5), (4, 6), (5, 0), (6, 0), (7, 0), (10, 0), (10, 1), (10, 2), (10, 3), (10, 4), (10, 5), (10, 6), (10, 7), (11, 0), (11, 1), (11, 2), (11, 3), (11, 4), (11, 5), (11, 6), (11, 7), (12, 0), (12, 1), (12, 2), (12, 3), (12, 4), (12, 5), (12, 6), (12, 7), (13, 0), (13, 1), (13, 2), (13, 3), (13, 4), (13, 5), (13, 6), (13, 7), (14, 0), (14, 1), (14, 2), (14, 3), (14, 4), (14, 5), (14, 6), (15, 0), (15, 1), (15, 2), (15, 3), (15, 4), (15, 5), (15, 6), (16, 0), (16, 1), (16, 2), (16, 3), (16, 4), (16, 5), (16, 6), (17, 0), (18, 0), (19, 0), (20, 0), (21, 0), (22, 0), (23, 0), (24, 0), (25, 0), (26, 0), (27, 0), (28, 0), (29, 0)] := by decide +kernel
def bk_PX : List Nat := [31, 5, 15, 25, 37, 47, 57, 67, 75, 78, 2, 12, 22, 34, 44, 54, 64, 80, 1, 11, 21, 33, 43, 53, 63, 73, 0, 84, 3, 13, 23, 35, 45, 55, 65, 81, 4, 14, 24, 36, 46, 56, 66, 82, 6, 16, 26, 38, 48, 58, 68, 76, 7, 17, 27, 39, 49, 59, 69, 77, 8, 18, 28, 40, 50, 60, 70, 9, 19, 29, 41, 51, 61, 71, 10, 20, 30, 42, 52, 62, 72, 74, 79, 83, 32, 85, 86, 87, 88, 89, 90, 91, 92, 93]
theorem bk_cons {α : Type} {a b : α} {L M : List α} (h : a = b) (t : L = M) : a :: L = b :: M := by rw [h, t]
def bk_WW (aI aC aS : ClassId) (xb xm : Nat) (u v : bk_U) : va_W := bk_Bb aI aC aS xb u ++ bk_Mo aI xm v
def bk_e20 (xb xm t30 t31 t32 : Nat) (u v : bk_U) (aS : ClassId) : va_E := .inl (aS, 4, .inr (.inr (.inr (.inr (fun j => some (bk_ad xb xm t30 t31 t32 u v 4 (3 + j)))))))
set_option maxRecDepth 100000 in
set_option maxHeartbeats 8000000 in
theorem bk_eqW (aI aC aS : ClassId) (xb xm t30 t31 t32 : Nat) (u v : bk_U) : bk_PX.map (fun x => ((bk_WW aI aC aS xb xm u v).set 32 (u 10 0, bk_e20 xb xm t30 t31 t32 u v aS))[x]?) = (bb_WS (bk_ad xb xm t30 t31 t32 u v) aI aC aS bk_M0).map some := by
  unfold bb_WS
  rw [bb_all_eq]
  exact bk_cons rfl (bk_cons rfl (bk_cons rfl (bk_cons rfl (bk_cons rfl (bk_cons rfl (bk_cons rfl (bk_cons rfl (bk_cons rfl (bk_cons rfl (bk_cons rfl (bk_cons rfl (bk_cons rfl (bk_cons rfl (bk_cons rfl (bk_cons rfl (bk_cons rfl (bk_cons rfl (bk_cons rfl (bk_cons rfl (bk_cons rfl (bk_cons rfl (bk_cons rfl (bk_cons rfl (bk_cons rfl (bk_cons rfl (bk_cons rfl (bk_cons rfl (bk_cons rfl (bk_cons rfl (bk_cons rfl (bk_cons rfl (bk_cons rfl (bk_cons rfl (bk_cons rfl (bk_cons rfl (bk_cons rfl (bk_cons rfl (bk_cons rfl (bk_cons rfl (bk_cons rfl (bk_cons rfl (bk_cons rfl (bk_cons rfl (bk_cons rfl (bk_cons rfl (bk_cons rfl (bk_cons rfl (bk_cons rfl (bk_cons rfl (bk_cons rfl (bk_cons rfl (bk_cons rfl (bk_cons rfl (bk_cons rfl (bk_cons rfl (bk_cons rfl (bk_cons rfl (bk_cons rfl (bk_cons rfl (bk_cons rfl (bk_cons rfl (bk_cons rfl (bk_cons rfl (bk_cons rfl (bk_cons rfl (bk_cons rfl (bk_cons rfl (bk_cons rfl (bk_cons rfl (bk_cons rfl (bk_cons rfl (bk_cons rfl (bk_cons rfl (bk_cons rfl (bk_cons rfl (bk_cons rfl (bk_cons rfl (bk_cons rfl (bk_cons rfl (bk_cons rfl (bk_cons rfl (bk_cons rfl (bk_cons rfl (bk_cons rfl (bk_cons rfl (bk_cons rfl (bk_cons rfl (bk_cons rfl (bk_cons rfl (bk_cons rfl (bk_cons rfl (bk_cons rfl (bk_cons rfl (rfl))))))))))))))))))))))))))))))))))))))))))))))))))))))))))))))))))))))))))))))))))))))))))))))
theorem bk_nd94 : va_nd bk_PX = true := by decide +kernel
set_option maxRecDepth 100000 in
/-- the world, the addresses -/
theorem bk_world {D : va_G} {A : Nat → Prop} {aI aC aS : ClassId} {xb xm t30 t31 t32 : Nat} {u v : bk_U} {H : Heap} (hP : va_P D bb_cls (bk_WW aI aC aS xb xm u v) H) (hD : va_D A (bk_WW aI aC aS xb xm u v)) : va_P D bb_cls (bb_WS (bk_ad xb xm t30 t31 t32 u v) aI aC aS bk_M0) H ∧ va_D A (bb_WS (bk_ad xb xm t30 t31 t32 u v) aI aC aS bk_M0) := by
  have h32 : (bk_WW aI aC aS xb xm u v)[32]? = some (u 10 0, .inl (aS, 4, .inr (.inr (.inr (.inr (fun j => some (u 10 (j + 1)))))))) := rfl
  have he : va_at D bb_cls (u 10 0, bk_e20 xb xm t30 t31 t32 u v aS) H := by
    have e0 : H[u 10 0]? = some (vp_cell aS (4, .inr (.inr (.inr (.inr (fun j => some (u 10 (j + 1)))))))) := hP 32 _ h32
    show H[u 10 0]? = some (vp_cell aS (4, .inr (.inr (.inr (.inr (fun j => some (bk_ad xb xm t30 t31 t32 u v 4 (3 + j))))))))
    rw [e0, vp_cell_q, vp_cell_q]
    exact congrArg some (arrV_four rfl rfl rfl rfl)
  have hP1 := hP.set hD h32 he (fun _ _ => rfl)
  have hD1 := hD.set (e := bk_e20 xb xm t30 t31 t32 u v aS) h32
  have e := bk_eqW aI aC aS xb xm t30 t31 t32 u v
  exact ⟨hP1.sub bk_PX (bk_pick e), hD1.sub bk_PX bk_nd94 e⟩
theorem bk_Ad {bs : Nat} {ad : Nat → Nat → Nat} {aI aC aS : ClassId} {M : bb_M} (hD : va_D (bb_A bs) (bb_WS ad aI aC aS M)) : bb_Ad bs ad := by
  refine ⟨fun k i k' i' h1 h2 h3 h4 e => ?_, fun k i h1 h2 => ?_⟩
  · obtain ⟨p, hp⟩ := bb_pos h1 h2
    obtain ⟨p', hp'⟩ := bb_pos h3 h4
    have := hD.1 p p' _ _ (bb_WS_at hp) (bb_WS_at hp') e
    subst this
    rw [hp] at hp'
    cases hp'
    exact ⟨rfl, rfl⟩
  · obtain ⟨p, hp⟩ := bb_pos h1 h2
    exact hD.2 p _ (bb_WS_at hp)
/-! the first state -/
theorem bk_hp_hi : ∀ (n j : Nat), n ≤ j → bk_hp n j = 0
  | 0, _, _ => rfl
  | n + 1, j, h => by
    show upd (bk_hp n) n _ j = 0
    rw [bf_upd, if_neg (by omega), bk_hp_hi n j (by omega)]
theorem bk_hp_lo : ∀ (n j : Nat), n ≤ 80 → j < n → bk_hp n j = 60 - 3 * nI (j % 20)
  | 0, _, _, h => absurd h (Nat.not_lt_zero _)
  | n + 1, j, hn, h => by
    show upd (bk_hp n) n (60 - 3 * (nI n - nI n / 20 * 20)) j = _
    rw [bf_upd]
    by_cases z : j = n
    · rw [if_pos z, z, bm_r20 (by omega)]
    · rw [if_neg z, bk_hp_lo n j (by omega) (by omega)]
theorem bk_all_lo {j : Nat} (h : j < 80) : bk_all j = bk_hp 80 j := by
  unfold bk_all
  rw [bf_upd, if_neg (by omega), bf_upd, if_neg (by omega), bf_upd, if_neg (by omega), bf_upd, if_neg (by omega)]
theorem bk_all_hi {j : Nat} (h : 85 ≤ j) : bk_all j = 0 := by
  unfold bk_all
  rw [bf_upd, if_neg (by omega), bf_upd, if_neg (by omega), bf_upd, if_neg (by omega), bf_upd, if_neg (by omega), bk_hp_hi 80 j (by omega)]
theorem bk_all_80 : bk_all 80 = 40 := by
  unfold bk_all
  rw [bf_upd, if_neg (by decide), bf_upd, if_neg (by decide), bf_upd, if_neg (by decide), bf_upd, if_pos rfl]
theorem bk_all_81 : bk_all 81 = 8 := by
  unfold bk_all
  rw [bf_upd, if_neg (by decide), bf_upd, if_neg (by decide), bf_upd, if_pos rfl]
theorem bk_all_82 : bk_all 82 = 0 := by
  unfold bk_all
  rw [bf_upd, if_neg (by decide), bf_upd, if_neg (by decide), bf_upd, if_neg (by decide), bf_upd, if_neg (by decide), bk_hp_hi 80 82 (by decide)]
theorem bk_all_83 : bk_all 83 = 3 := by
  unfold bk_all
  rw [bf_upd, if_neg (by decide), bf_upd, if_pos rfl]
theorem bk_all_84 : bk_all 84 = 12 := by
  unfold bk_all
  rw [bf_upd, if_pos rfl]
theorem bk_sz0 : bs_sz bk_all = 0 := by
  unfold bs_sz
  rw [bk_all_hi (by decide)]
  rfl
theorem bk_tl0 : bs_tl bk_all = 0 := by
  unfold bs_tl
  rw [bk_all_hi (by decide)]
  rfl
theorem bk_inv : bs_inv bk_all := by
  refine ⟨fun j hj => ?_, ?_, ?_, ?_, ?_, ?_, ?_, ?_, ?_⟩
  · rw [bk_all_lo hj, bk_hp_lo 80 j (Nat.le_refl _) hj]
    have e : 60 - 3 * nI (j % 20) = nI (60 - 3 * (j % 20)) := by
      rw [bm_m3, show (60 : Int32) = nI 60 from rfl, pk_sub (by omega)]
    rw [e, bn_ti (by omega)]
    omega
  · rw [bk_all_80]; decide
  · rw [bk_all_81]; decide
  · rw [bk_all_82]; decide
  · rw [bk_all_83]; decide
  · rw [bk_all_84]; decide
  · rw [bk_sz0, bk_all_hi (by decide)]
    exact ⟨by decide, rfl⟩
  · rw [bk_sz0]
    exact fun j hj => absurd hj (Nat.not_lt_zero j)
  · rw [bk_tl0, bk_all_hi (by decide)]
    exact ⟨by decide, rfl⟩
theorem bk_JJ : bb_JJ bk_M0 := by
  refine ⟨(bk_all, fun _ _ => 0, 0, false, fun _ => 0, fun _ => 0, 0), ⟨⟨fun j hj => (bk_all_lo hj).symm, bk_all_80.symm, fun j hj => ?_, (bk_all_hi (by decide)).symm, ?_, fun j hj => (bk_all_hi (by omega)).symm, (bk_all_hi (by decide)).symm, ?_⟩, bk_inv, ⟨by decide, rfl, 0, by decide, rfl, fun j hj => absurd hj (Nat.not_lt_zero j)⟩, rfl, fun z => (by cases z), ⟨⟨rfl, fun j hj => absurd hj (Nat.not_lt_zero j)⟩, by decide⟩, fun j hj => ?_⟩, ⟨fun _ _ => rfl, ⟨by decide, rfl, fun j hj => absurd hj (Nat.not_lt_zero j)⟩, ⟨rfl, fun z => (by cases z)⟩, ⟨⟨rfl, fun j hj => absurd hj (Nat.not_lt_zero j)⟩, by decide⟩, rfl⟩, rfl⟩
  · rcases (show j = 0 ∨ j = 1 ∨ j = 2 ∨ j = 3 by omega) with rfl | rfl | rfl | rfl
    · exact bk_all_81.symm
    · exact bk_all_82.symm
    · exact bk_all_83.symm
    · exact bk_all_84.symm
  · show ∀ j, j < bs_sz bk_all → _
    rw [bk_sz0]
    exact fun j hj => absurd hj (Nat.not_lt_zero j)
  · show ∀ j, j < 7 * bs_tl bk_all → _
    rw [bk_tl0]
    exact fun j hj => absurd hj (Nat.not_lt_zero j)
  · rcases (show j = 0 ∨ j = 1 ∨ j = 2 ∨ j = 3 by omega) with rfl | rfl | rfl | rfl <;> exact ⟨rfl, rfl⟩
theorem bk_stc : bb_stc bk_M0 := by
  intro k h1 h2 j hj
  rcases (show k = 30 ∨ k = 31 ∨ k = 32 by omega) with rfl | rfl | rfl <;> rfl
