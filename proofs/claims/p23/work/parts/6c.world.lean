/-! WHAT THE CONSTRUCTORS MADE -/
theorem bm_m3 (n : Nat) : 3 * nI n = nI (3 * n) := by rw [show (3 : Int32) = nI 3 from rfl, pk_mul]
theorem bm_r20 {n : Nat} (h : n < 1000) : nI n - nI n / 20 * 20 = nI (n % 20) := pk_rem (a := n) (d := 20) (by omega) (by omega) (by omega)
def bk_adL (xb t30 t31 t32 : Nat) (u : bk_U) : List (List Nat) := [[u 0 3], [u 1 1, u 4 1, u 7 1, u 11 1, u 14 1, u 17 1, u 20 1, u 23 1], [u 0 5], [u 1 0, u 4 0, u 7 0, u 11 0, u 14 0, u 17 0, u 20 0, u 0 6], [u 0 0, u 0 1, u 0 2, u 10 1, u 10 2, u 10 3, u 10 4], [u 0 4], [xb], [], [], [], [u 2 0, u 5 0, u 8 0, u 12 0, u 15 0, u 18 0, u 21 0, u 26 0], [u 2 1, u 5 1, u 8 1, u 12 1, u 15 1, u 18 1, u 21 1, u 26 1], [u 3 0, u 6 0, u 9 0, u 13 0, u 16 0, u 19 0, u 22 0, u 24 0], [u 3 1, u 6 1, u 9 1, u 13 1, u 16 1, u 19 1, u 22 1, u 24 1], [u 1 2, u 4 2, u 7 2, u 11 2, u 14 2, u 17 2, u 20 2], [u 1 3, u 4 3, u 7 3, u 11 3, u 14 3, u 17 3, u 20 3], [u 1 4, u 4 4, u 7 4, u 11 4, u 14 4, u 17 4, u 20 4], [u 23 0], [u 25 0], [u 0 7], [u 10 0], [], [], [], [], [], [], [], [], [], [t30], [t31], [t32]]
def bk_ad (xb t30 t31 t32 : Nat) (u : bk_U) : Nat → Nat → Nat := fun k i => ((bk_adL xb t30 t31 t32 u).getD k []).getD i 0
def bk_M0 : bb_M := fun k _ => match k with
  | 4 => fun j => if j = 6 then 40 else 0
  | 10 => bk_hp 80
  | 14 => va_cpy (bb_cst 32) (fun _ => 0) 0 0 4
  | 30 => bb_cst 30
  | 31 => bb_cst 31
  | 32 => bb_cst 32
  | _ => fun _ => 0
theorem bb_all_eq : bb_all = [(0, 0), (1, 0), (1, 1), (1, 2), (1, 3), (1, 4), (1, 5), (1, 6), (1, 7), (2, 0), (3, 0), (3, 1), (3, 2), (3, 3), (3, 4), (3, 5), (3, 6), (3, 7), (4, 0), (4, 1), (4, 2), (4, 3), (4, 4), (4, 5), (4, 6), (5, 0), (6, 0), (10, 0), (10, 1), (10, 2), (10, 3), (10, 4), (10, 5), (10, 6), (10, 7), (11, 0), (11, 1), (11, 2), (11, 3), (11, 4), (11, 5), (11, 6), (11, 7), (12, 0), (12, 1), (12, 2), (12, 3), (12, 4), (12, 5), (12, 6), (12, 7), (13, 0), (13, 1), (13, 2), (13, 3), (13, 4), (13, 5), (13, 6), (13, 7), (14, 0), (14, 1), (14, 2), (14, 3), (14, 4), (14, 5), (14, 6), (15, 0), (15, 1), (15, 2), (15, 3), (15, 4), (15, 5), (15, 6), (16, 0), (16, 1), (16, 2), (16, 3), (16, 4), (16, 5), (16, 6), (17, 0), (18, 0), (19, 0), (20, 0)] := by decide +kernel
def bk_PX : List Nat := [31, 5, 15, 25, 37, 47, 57, 67, 75, 78, 2, 12, 22, 34, 44, 54, 64, 80, 1, 11, 21, 33, 43, 53, 63, 73, 0, 3, 13, 23, 35, 45, 55, 65, 81, 4, 14, 24, 36, 46, 56, 66, 82, 6, 16, 26, 38, 48, 58, 68, 76, 7, 17, 27, 39, 49, 59, 69, 77, 8, 18, 28, 40, 50, 60, 70, 9, 19, 29, 41, 51, 61, 71, 10, 20, 30, 42, 52, 62, 72, 74, 79, 83, 32]
theorem bk_cons {α : Type} {a b : α} {L M : List α} (h : a = b) (t : L = M) : a :: L = b :: M := by rw [h, t]
def bk_WW (aI aC aS : ClassId) (xb : Nat) (u : bk_U) : va_W := bk_Bb aI aC aS xb u
theorem bk_m10 (i : Nat) : bk_M0 10 i = bk_hp 80 := by unfold bk_M0; rfl
theorem bk_m14 (i : Nat) : bk_M0 14 i = va_cpy (bb_cst 32) (fun _ => 0) 0 0 4 := by unfold bk_M0; rfl
theorem bk_ent {ws : va_W} {x k i : Nat} {f : Nat → Int32} {ad : Nat → Nat → Nat} {aI aC aS : ClassId} (hk : bb_ia k = true) (hf : bk_M0 k i = f) (h : ws[x]? = some (ad k i, .inl (aI, bb_len k, .inl f))) : ws[x]? = some (ad k i, bb_ce ad aI aC aS bk_M0 k i) := by rw [bb_ce_i hk, hf]; exact h
def bk_e20 (xb t30 t31 t32 : Nat) (u : bk_U) (aS : ClassId) : va_E := .inl (aS, 4, .inr (.inr (.inr (.inr (fun j => some (bk_ad xb t30 t31 t32 u 4 (3 + j)))))))
def bk_EW (aI aC : ClassId) (xb : Nat) (u : bk_U) (e : va_E) : va_W := [(xb, .inr (6, [.ref (u 0 0), .ref (u 0 1), .ref (u 0 2), .int 0, .ref (u 0 3), .ref (u 0 4), .ref (u 0 5), .ref (u 0 6), .ref (u 0 7)])), (u 0 0, .inr (4, [.ref (u 1 0), .ref (u 1 1), .ref (u 1 2), .ref (u 1 3), .ref (u 1 4), .int 0, .int 40])), (u 1 0, .inr (3, [.ref (u 2 0), .ref (u 2 1)])), (u 2 0, .inl (aI, 80, .inl (bk_hp 80))), (u 2 1, .inl (aI, 4, .inl (fun _ => 0))), (u 1 1, .inr (1, [.ref (u 3 0), .ref (u 3 1), .int 0])), (u 3 0, .inl (aI, 24, .inl (fun _ => 0))), (u 3 1, .inl (aI, 24, .inl (fun _ => 0))), (u 1 2, .inl (aI, 4, .inl (va_cpy (bb_cst 32) (fun _ => 0) 0 0 4))), (u 1 3, .inl (aI, 9, .inl (fun _ => 0))), (u 1 4, .inl (aI, 168, .inl (fun _ => 0))), (u 0 1, .inr (4, [.ref (u 4 0), .ref (u 4 1), .ref (u 4 2), .ref (u 4 3), .ref (u 4 4), .int 0, .int 40])), (u 4 0, .inr (3, [.ref (u 5 0), .ref (u 5 1)])), (u 5 0, .inl (aI, 80, .inl (bk_hp 80))), (u 5 1, .inl (aI, 4, .inl (fun _ => 0))), (u 4 1, .inr (1, [.ref (u 6 0), .ref (u 6 1), .int 0])), (u 6 0, .inl (aI, 24, .inl (fun _ => 0))), (u 6 1, .inl (aI, 24, .inl (fun _ => 0))), (u 4 2, .inl (aI, 4, .inl (va_cpy (bb_cst 32) (fun _ => 0) 0 0 4))), (u 4 3, .inl (aI, 9, .inl (fun _ => 0))), (u 4 4, .inl (aI, 168, .inl (fun _ => 0))), (u 0 2, .inr (4, [.ref (u 7 0), .ref (u 7 1), .ref (u 7 2), .ref (u 7 3), .ref (u 7 4), .int 0, .int 40])), (u 7 0, .inr (3, [.ref (u 8 0), .ref (u 8 1)])), (u 8 0, .inl (aI, 80, .inl (bk_hp 80))), (u 8 1, .inl (aI, 4, .inl (fun _ => 0))), (u 7 1, .inr (1, [.ref (u 9 0), .ref (u 9 1), .int 0])), (u 9 0, .inl (aI, 24, .inl (fun _ => 0))), (u 9 1, .inl (aI, 24, .inl (fun _ => 0))), (u 7 2, .inl (aI, 4, .inl (va_cpy (bb_cst 32) (fun _ => 0) 0 0 4))), (u 7 3, .inl (aI, 9, .inl (fun _ => 0))), (u 7 4, .inl (aI, 168, .inl (fun _ => 0))), (u 0 3, .inr (0, [.ref (u 10 0), .int 0, .int 0])), (u 10 0, e), (u 10 1, .inr (4, [.ref (u 11 0), .ref (u 11 1), .ref (u 11 2), .ref (u 11 3), .ref (u 11 4), .int 0, .int 40])), (u 11 0, .inr (3, [.ref (u 12 0), .ref (u 12 1)])), (u 12 0, .inl (aI, 80, .inl (bk_hp 80))), (u 12 1, .inl (aI, 4, .inl (fun _ => 0))), (u 11 1, .inr (1, [.ref (u 13 0), .ref (u 13 1), .int 0])), (u 13 0, .inl (aI, 24, .inl (fun _ => 0))), (u 13 1, .inl (aI, 24, .inl (fun _ => 0))), (u 11 2, .inl (aI, 4, .inl (va_cpy (bb_cst 32) (fun _ => 0) 0 0 4))), (u 11 3, .inl (aI, 9, .inl (fun _ => 0))), (u 11 4, .inl (aI, 168, .inl (fun _ => 0))), (u 10 2, .inr (4, [.ref (u 14 0), .ref (u 14 1), .ref (u 14 2), .ref (u 14 3), .ref (u 14 4), .int 0, .int 40])), (u 14 0, .inr (3, [.ref (u 15 0), .ref (u 15 1)])), (u 15 0, .inl (aI, 80, .inl (bk_hp 80))), (u 15 1, .inl (aI, 4, .inl (fun _ => 0))), (u 14 1, .inr (1, [.ref (u 16 0), .ref (u 16 1), .int 0])), (u 16 0, .inl (aI, 24, .inl (fun _ => 0))), (u 16 1, .inl (aI, 24, .inl (fun _ => 0))), (u 14 2, .inl (aI, 4, .inl (va_cpy (bb_cst 32) (fun _ => 0) 0 0 4))), (u 14 3, .inl (aI, 9, .inl (fun _ => 0))), (u 14 4, .inl (aI, 168, .inl (fun _ => 0))), (u 10 3, .inr (4, [.ref (u 17 0), .ref (u 17 1), .ref (u 17 2), .ref (u 17 3), .ref (u 17 4), .int 0, .int 40])), (u 17 0, .inr (3, [.ref (u 18 0), .ref (u 18 1)])), (u 18 0, .inl (aI, 80, .inl (bk_hp 80))), (u 18 1, .inl (aI, 4, .inl (fun _ => 0))), (u 17 1, .inr (1, [.ref (u 19 0), .ref (u 19 1), .int 0])), (u 19 0, .inl (aI, 24, .inl (fun _ => 0))), (u 19 1, .inl (aI, 24, .inl (fun _ => 0))), (u 17 2, .inl (aI, 4, .inl (va_cpy (bb_cst 32) (fun _ => 0) 0 0 4))), (u 17 3, .inl (aI, 9, .inl (fun _ => 0))), (u 17 4, .inl (aI, 168, .inl (fun _ => 0))), (u 10 4, .inr (4, [.ref (u 20 0), .ref (u 20 1), .ref (u 20 2), .ref (u 20 3), .ref (u 20 4), .int 0, .int 40])), (u 20 0, .inr (3, [.ref (u 21 0), .ref (u 21 1)])), (u 21 0, .inl (aI, 80, .inl (bk_hp 80))), (u 21 1, .inl (aI, 4, .inl (fun _ => 0))), (u 20 1, .inr (1, [.ref (u 22 0), .ref (u 22 1), .int 0])), (u 22 0, .inl (aI, 24, .inl (fun _ => 0))), (u 22 1, .inl (aI, 24, .inl (fun _ => 0))), (u 20 2, .inl (aI, 4, .inl (va_cpy (bb_cst 32) (fun _ => 0) 0 0 4))), (u 20 3, .inl (aI, 9, .inl (fun _ => 0))), (u 20 4, .inl (aI, 168, .inl (fun _ => 0))), (u 0 4, .inr (5, [.ref (u 23 0), .int 0, .ref (u 23 1), .int 0, .int 0, .int 0, .int 0])), (u 23 0, .inl (aC, 60, .inl (fun _ => 0))), (u 23 1, .inr (1, [.ref (u 24 0), .ref (u 24 1), .int 0])), (u 24 0, .inl (aI, 24, .inl (fun _ => 0))), (u 24 1, .inl (aI, 24, .inl (fun _ => 0))), (u 0 5, .inr (2, [.ref (u 25 0), .int 0, .int 0])), (u 25 0, .inl (aI, 7, .inl (fun _ => 0))), (u 0 6, .inr (3, [.ref (u 26 0), .ref (u 26 1)])), (u 26 0, .inl (aI, 80, .inl (bk_hp 80))), (u 26 1, .inl (aI, 4, .inl (fun _ => 0))), (u 0 7, .inl (aI, 24, .inl (fun _ => 0)))]
set_option maxRecDepth 100000 in
set_option maxHeartbeats 4000000 in
theorem bk_WW_eq (aI aC aS : ClassId) (xb : Nat) (u : bk_U) : bk_WW aI aC aS xb u = bk_EW aI aC xb u (.inl (aS, 4, .inr (.inr (.inr (.inr (fun j => some (u 10 (j + 1)))))))) := by
  simp only [bk_WW, bk_Bb, bk_St, bk_Sa, bk_Qu, bk_Hi, bk_Tx, bk_Ri, List.nil_append, List.cons_append, bk_sh, Nat.reduceAdd, bk_EW]
theorem bk_EW_set (aI aC : ClassId) (xb : Nat) (u : bk_U) (e e2 : va_E) : (bk_EW aI aC xb u e).set 32 (u 10 0, e2) = bk_EW aI aC xb u e2 := rfl
set_option maxRecDepth 100000 in
set_option maxHeartbeats 8000000 in
theorem bk_eqW (aI aC aS : ClassId) (xb t30 t31 t32 : Nat) (u : bk_U) : bk_PX.map (fun x => (bk_EW aI aC xb u (bk_e20 xb t30 t31 t32 u aS))[x]?) = (bb_WS (bk_ad xb t30 t31 t32 u) aI aC aS bk_M0).map some := by
  unfold bb_WS
  rw [bb_all_eq]
  exact bk_cons rfl (bk_cons rfl (bk_cons rfl (bk_cons rfl (bk_cons rfl (bk_cons rfl (bk_cons rfl (bk_cons rfl (bk_cons rfl (bk_cons rfl (bk_cons rfl (bk_cons rfl (bk_cons rfl (bk_cons rfl (bk_cons rfl (bk_cons rfl (bk_cons rfl (bk_cons rfl (bk_cons rfl (bk_cons rfl (bk_cons rfl (bk_cons rfl (bk_cons rfl (bk_cons rfl (bk_cons rfl (bk_cons rfl (bk_cons rfl (bk_cons (bk_ent (f := bk_hp 80) rfl (bk_m10 _) rfl) (bk_cons (bk_ent (f := bk_hp 80) rfl (bk_m10 _) rfl) (bk_cons (bk_ent (f := bk_hp 80) rfl (bk_m10 _) rfl) (bk_cons (bk_ent (f := bk_hp 80) rfl (bk_m10 _) rfl) (bk_cons (bk_ent (f := bk_hp 80) rfl (bk_m10 _) rfl) (bk_cons (bk_ent (f := bk_hp 80) rfl (bk_m10 _) rfl) (bk_cons (bk_ent (f := bk_hp 80) rfl (bk_m10 _) rfl) (bk_cons (bk_ent (f := bk_hp 80) rfl (bk_m10 _) rfl) (bk_cons (bk_ent (f := fun _ => 0) rfl rfl rfl) (bk_cons (bk_ent (f := fun _ => 0) rfl rfl rfl) (bk_cons (bk_ent (f := fun _ => 0) rfl rfl rfl) (bk_cons (bk_ent (f := fun _ => 0) rfl rfl rfl) (bk_cons (bk_ent (f := fun _ => 0) rfl rfl rfl) (bk_cons (bk_ent (f := fun _ => 0) rfl rfl rfl) (bk_cons (bk_ent (f := fun _ => 0) rfl rfl rfl) (bk_cons (bk_ent (f := fun _ => 0) rfl rfl rfl) (bk_cons (bk_ent (f := fun _ => 0) rfl rfl rfl) (bk_cons (bk_ent (f := fun _ => 0) rfl rfl rfl) (bk_cons (bk_ent (f := fun _ => 0) rfl rfl rfl) (bk_cons (bk_ent (f := fun _ => 0) rfl rfl rfl) (bk_cons (bk_ent (f := fun _ => 0) rfl rfl rfl) (bk_cons (bk_ent (f := fun _ => 0) rfl rfl rfl) (bk_cons (bk_ent (f := fun _ => 0) rfl rfl rfl) (bk_cons (bk_ent (f := fun _ => 0) rfl rfl rfl) (bk_cons (bk_ent (f := fun _ => 0) rfl rfl rfl) (bk_cons (bk_ent (f := fun _ => 0) rfl rfl rfl) (bk_cons (bk_ent (f := fun _ => 0) rfl rfl rfl) (bk_cons (bk_ent (f := fun _ => 0) rfl rfl rfl) (bk_cons (bk_ent (f := fun _ => 0) rfl rfl rfl) (bk_cons (bk_ent (f := fun _ => 0) rfl rfl rfl) (bk_cons (bk_ent (f := fun _ => 0) rfl rfl rfl) (bk_cons (bk_ent (f := fun _ => 0) rfl rfl rfl) (bk_cons (bk_ent (f := va_cpy (bb_cst 32) (fun _ => 0) 0 0 4) rfl (bk_m14 _) rfl) (bk_cons (bk_ent (f := va_cpy (bb_cst 32) (fun _ => 0) 0 0 4) rfl (bk_m14 _) rfl) (bk_cons (bk_ent (f := va_cpy (bb_cst 32) (fun _ => 0) 0 0 4) rfl (bk_m14 _) rfl) (bk_cons (bk_ent (f := va_cpy (bb_cst 32) (fun _ => 0) 0 0 4) rfl (bk_m14 _) rfl) (bk_cons (bk_ent (f := va_cpy (bb_cst 32) (fun _ => 0) 0 0 4) rfl (bk_m14 _) rfl) (bk_cons (bk_ent (f := va_cpy (bb_cst 32) (fun _ => 0) 0 0 4) rfl (bk_m14 _) rfl) (bk_cons (bk_ent (f := va_cpy (bb_cst 32) (fun _ => 0) 0 0 4) rfl (bk_m14 _) rfl) (bk_cons (bk_ent (f := fun _ => 0) rfl rfl rfl) (bk_cons (bk_ent (f := fun _ => 0) rfl rfl rfl) (bk_cons (bk_ent (f := fun _ => 0) rfl rfl rfl) (bk_cons (bk_ent (f := fun _ => 0) rfl rfl rfl) (bk_cons (bk_ent (f := fun _ => 0) rfl rfl rfl) (bk_cons (bk_ent (f := fun _ => 0) rfl rfl rfl) (bk_cons (bk_ent (f := fun _ => 0) rfl rfl rfl) (bk_cons (bk_ent (f := fun _ => 0) rfl rfl rfl) (bk_cons (bk_ent (f := fun _ => 0) rfl rfl rfl) (bk_cons (bk_ent (f := fun _ => 0) rfl rfl rfl) (bk_cons (bk_ent (f := fun _ => 0) rfl rfl rfl) (bk_cons (bk_ent (f := fun _ => 0) rfl rfl rfl) (bk_cons (bk_ent (f := fun _ => 0) rfl rfl rfl) (bk_cons (bk_ent (f := fun _ => 0) rfl rfl rfl) (bk_cons rfl (bk_cons (bk_ent (f := fun _ => 0) rfl rfl rfl) (bk_cons (bk_ent (f := fun _ => 0) rfl rfl rfl) (bk_cons rfl (rfl))))))))))))))))))))))))))))))))))))))))))))))))))))))))))))))))))))))))))))))))))))
theorem bk_nd84 : va_nd bk_PX = true := by decide +kernel
set_option maxRecDepth 100000 in
/-- the world, the addresses -/
theorem bk_world {D : va_G} {A : Nat → Prop} {aI aC aS : ClassId} {xb t30 t31 t32 : Nat} {u : bk_U} {H : Heap} (hP : va_P D bb_cls (bk_WW aI aC aS xb u) H) (hD : va_D A (bk_WW aI aC aS xb u)) : va_P D bb_cls (bb_WS (bk_ad xb t30 t31 t32 u) aI aC aS bk_M0) H ∧ va_D A (bb_WS (bk_ad xb t30 t31 t32 u) aI aC aS bk_M0) := by
  rw [bk_WW_eq] at hP hD
  have h32 : (bk_EW aI aC xb u (.inl (aS, 4, .inr (.inr (.inr (.inr (fun j => some (u 10 (j + 1)))))))))[32]? = some (u 10 0, .inl (aS, 4, .inr (.inr (.inr (.inr (fun j => some (u 10 (j + 1)))))))) := rfl
  have he : va_at D bb_cls (u 10 0, bk_e20 xb t30 t31 t32 u aS) H := by
    have e0 : H[u 10 0]? = some (vp_cell aS (4, .inr (.inr (.inr (.inr (fun j => some (u 10 (j + 1)))))))) := hP 32 _ h32
    show H[u 10 0]? = some (vp_cell aS (4, .inr (.inr (.inr (.inr (fun j => some (bk_ad xb t30 t31 t32 u 4 (3 + j))))))))
    rw [e0, vp_cell_q, vp_cell_q]
    exact congrArg some (arrV_four rfl rfl rfl rfl)
  have hP1 := hP.set hD h32 he (fun _ _ => rfl)
  have hD1 := hD.set (e := bk_e20 xb t30 t31 t32 u aS) h32
  rw [bk_EW_set] at hP1 hD1
  have e := bk_eqW aI aC aS xb t30 t31 t32 u
  exact ⟨hP1.sub bk_PX (bk_pick e), hD1.sub bk_PX bk_nd84 e⟩
theorem bk_Ad {bs : Nat → Prop} {ad : Nat → Nat → Nat} {aI aC aS : ClassId} {M : bb_M} (hD : va_D (bb_A bs) (bb_WS ad aI aC aS M)) : bb_Ad bs ad := by
  refine ⟨fun k i k' i' h1 h2 h3 h4 e => ?_, fun k i h1 h2 => ?_⟩
  · obtain ⟨p, hp⟩ := bb_pos h1 h2
    obtain ⟨p', hp'⟩ := bb_pos h3 h4
    have := hD.1 p p' _ _ (bb_WS_at hp) (bb_WS_at hp') e
    subst this
    rw [hp] at hp'
    cases hp'
    exact ⟨rfl, rfl⟩
  · obtain ⟨p, hp⟩ := bb_pos h1 h2
    exact hD.2 p _ (bb_WS_at hp)
/-! the first state -/
theorem bk_hp_hi : ∀ (n j : Nat), n ≤ j → bk_hp n j = 0
  | 0, _, _ => rfl
  | n + 1, j, h => by
    show upd (bk_hp n) n _ j = 0
    rw [bf_upd, if_neg (by omega), bk_hp_hi n j (by omega)]
theorem bk_hp_lo : ∀ (n j : Nat), n ≤ 80 → j < n → bk_hp n j = 60 - 3 * nI (j % 20)
  | 0, _, _, h => absurd h (Nat.not_lt_zero _)
  | n + 1, j, hn, h => by
    show upd (bk_hp n) n (60 - 3 * (nI n - nI n / 20 * 20)) j = _
    rw [bf_upd]
    by_cases z : j = n
    · rw [if_pos z, z, bm_r20 (by omega)]
    · rw [if_neg z, bk_hp_lo n j (by omega) (by omega)]
theorem bk_all_lo {j : Nat} (h : j < 80) : bk_all j = bk_hp 80 j := by
  unfold bk_all
  rw [bf_upd, if_neg (by omega), bf_upd, if_neg (by omega), bf_upd, if_neg (by omega), bf_upd, if_neg (by omega)]
theorem bk_all_hi {j : Nat} (h : 85 ≤ j) : bk_all j = 0 := by
  unfold bk_all
  rw [bf_upd, if_neg (by omega), bf_upd, if_neg (by omega), bf_upd, if_neg (by omega), bf_upd, if_neg (by omega), bk_hp_hi 80 j (by omega)]
theorem bk_all_80 : bk_all 80 = 40 := by
  unfold bk_all
  rw [bf_upd, if_neg (by decide), bf_upd, if_neg (by decide), bf_upd, if_neg (by decide), bf_upd, if_pos rfl]
theorem bk_all_81 : bk_all 81 = 8 := by
  unfold bk_all
  rw [bf_upd, if_neg (by decide), bf_upd, if_neg (by decide), bf_upd, if_pos rfl]
theorem bk_all_82 : bk_all 82 = 0 := by
  unfold bk_all
  rw [bf_upd, if_neg (by decide), bf_upd, if_neg (by decide), bf_upd, if_neg (by decide), bf_upd, if_neg (by decide), bk_hp_hi 80 82 (by decide)]
theorem bk_all_83 : bk_all 83 = 3 := by
  unfold bk_all
  rw [bf_upd, if_neg (by decide), bf_upd, if_pos rfl]
theorem bk_all_84 : bk_all 84 = 12 := by
  unfold bk_all
  rw [bf_upd, if_pos rfl]
theorem bk_sz0 : bs_sz bk_all = 0 := by
  unfold bs_sz
  rw [bk_all_hi (by decide)]
  rfl
theorem bk_tl0 : bs_tl bk_all = 0 := by
  unfold bs_tl
  rw [bk_all_hi (by decide)]
  rfl
theorem bk_inv : bs_inv bk_all := by
  refine ⟨fun j hj => ?_, ?_, ?_, ?_, ?_, ?_, ?_, ?_, ?_⟩
  · rw [bk_all_lo hj, bk_hp_lo 80 j (Nat.le_refl _) hj]
    have e : 60 - 3 * nI (j % 20) = nI (60 - 3 * (j % 20)) := by
      rw [bm_m3, show (60 : Int32) = nI 60 from rfl, pk_sub (by omega)]
    rw [e, bn_ti (by omega)]
    omega
  · rw [bk_all_80]; decide
  · rw [bk_all_81]; decide
  · rw [bk_all_82]; decide
  · rw [bk_all_83]; decide
  · rw [bk_all_84]; decide
  · rw [bk_sz0, bk_all_hi (by decide)]
    exact ⟨by decide, rfl⟩
  · rw [bk_sz0]
    exact fun j hj => absurd hj (Nat.not_lt_zero j)
  · rw [bk_tl0, bk_all_hi (by decide)]
    exact ⟨by decide, rfl⟩
def bk_S0 : bs_S := (bk_all, fun _ _ => 0, 0, false, fun _ => 0, fun _ => 0, 0)
theorem bk_CI : bs_CI bk_M0 bk_S0 := by
  have h10 : ∀ j, j < 80 → bk_M0 10 0 j = bk_all j := fun j hj => by rw [bk_m10, bk_all_lo hj]
  have h14 : ∀ j, j < 4 → bk_M0 14 0 j = bk_all (81 + j) := fun j hj => by
    rw [bk_m14]
    rcases (show j = 0 ∨ j = 1 ∨ j = 2 ∨ j = 3 by omega) with rfl | rfl | rfl | rfl
    · exact Eq.trans (by decide) bk_all_81.symm
    · exact Eq.trans (by decide) bk_all_82.symm
    · exact Eq.trans (by decide) bk_all_83.symm
    · exact Eq.trans (by decide) bk_all_84.symm
  have h80 : bk_M0 4 0 6 = bk_all 80 := Eq.trans (by decide) bk_all_80.symm
  have h85 : bk_M0 1 0 2 = bk_all 85 := Eq.trans (by decide) (bk_all_hi (j := 85) (by decide)).symm
  have h142 : bk_M0 4 0 5 = bk_all 142 := Eq.trans (by decide) (bk_all_hi (j := 142) (by decide)).symm
  have h134 : ∀ j, j < 8 → bk_M0 15 0 (j + 1) = bk_all (134 + j) := fun j hj => by rw [bk_all_hi (by omega)]; rfl
  have h12 : ∀ j, j < bs_sz bk_all → bk_M0 12 0 j = bk_all (86 + 2 * j) ∧ bk_M0 13 0 j = bk_all (87 + 2 * j) := fun j hj => absurd hj (by rw [bk_sz0]; exact Nat.not_lt_zero j)
  have h16 : ∀ j, j < 7 * bs_tl bk_all → bk_M0 16 0 j = bk_all (143 + j) := fun j hj => absurd hj (by rw [bk_tl0]; exact Nat.not_lt_zero j)
  have hst : ∀ j, j < 4 → bk_M0 30 0 j = [1, 0, 1, 4].getD j 0 ∧ bk_M0 31 0 j = [20, 2, 20, 30].getD j 0 := fun j hj => by
    rcases (show j = 0 ∨ j = 1 ∨ j = 2 ∨ j = 3 by omega) with rfl | rfl | rfl | rfl <;> exact ⟨by decide, by decide⟩
  have z1 : bk_M0 0 0 2 = nI 0 := by decide
  have z2 : bk_M0 0 0 1 = nI 0 := by decide
  have z3 : bk_M0 6 0 3 = 0 := by decide
  have z4 : bk_M0 5 0 1 = nI 0 := by decide
  have hinv := bk_inv
  unfold bk_S0
  generalize bk_M0 = M at *
  generalize bk_all = a at *
  exact ⟨⟨h10, h80, h14, h85, h12, h134, h142, h16⟩, hinv, ⟨Nat.zero_le 4, z1, 0, by decide, z2, fun j hj => absurd hj (Nat.not_lt_zero j)⟩, z3, fun z => (by cases z), ⟨⟨z4, fun j hj => absurd hj (Nat.not_lt_zero j)⟩, Nat.zero_le 60⟩, hst⟩
theorem bk_stc : bb_stc bk_M0 := by
  intro k h1 h2 j hj
  rcases (show k = 30 ∨ k = 31 ∨ k = 32 by omega) with rfl | rfl | rfl <;> rfl
