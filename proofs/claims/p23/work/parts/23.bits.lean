/-! BITS: how many there are, by Integer.bitCount and by the reference's loop -/
theorem bl_and {a b c d k : Nat} (ha : a < 2 ^ k) (hc : c < 2 ^ k) : (2 ^ k * b + a) &&& (2 ^ k * d + c) = 2 ^ k * (b &&& d) + (a &&& c) := by
  apply Nat.eq_of_testBit_eq
  intro j
  rw [Nat.testBit_and, Nat.testBit_two_pow_mul_add _ ha, Nat.testBit_two_pow_mul_add _ hc, Nat.testBit_two_pow_mul_add _ (Nat.and_lt_two_pow _ hc)]
  by_cases h : j < k
  · rw [if_pos h, if_pos h, if_pos h, Nat.testBit_and]
  · rw [if_neg h, if_neg h, if_neg h, Nat.testBit_and]
def bl_pc : Nat → Nat → Nat
  | 0, _ => 0
  | k + 1, n => n % 2 + bl_pc k (n / 2)
def bl_v (b : Nat) : Nat := ((b - ((b / 2) &&& 85)) &&& 51) + (((b - ((b / 2) &&& 85)) / 4) &&& 51)
theorem bl_byte : ∀ b, b < 256 → (b / 2) &&& 85 ≤ b ∧ b - ((b / 2) &&& 85) < 256 ∧ bl_v b ≤ 68 ∧ bl_v b % 16 ≤ 4 ∧ (bl_v b + bl_v b / 16) % 16 = bl_pc 8 b ∧ bl_pc 8 b ≤ 8 := by decide +kernel
theorem bl_3 {x0 x1 x2 m0 m2 : Nat} (h0 : x0 < 256) (h1 : x1 < 256) (hm : m0 < 256) : (x0 + 256 * x1 + 65536 * x2) &&& (m0 + 256 * m0 + 65536 * m2) = (x0 &&& m0) + 256 * (x1 &&& m0) + 65536 * (x2 &&& m2) := by
  have e1 := bl_and (a := x0) (b := x1 + 256 * x2) (c := m0) (d := m0 + 256 * m2) (k := 8) h0 hm
  have e2 := bl_and (a := x1) (b := x2) (c := m0) (d := m2) (k := 8) h1 hm
  have e3 : x1 + 256 * x2 = 2 ^ 8 * x2 + x1 := by omega
  have e4 : m0 + 256 * m2 = 2 ^ 8 * m2 + m0 := by omega
  rw [show x0 + 256 * x1 + 65536 * x2 = 2 ^ 8 * (x1 + 256 * x2) + x0 by omega, show m0 + 256 * m0 + 65536 * m2 = 2 ^ 8 * (m0 + 256 * m2) + m0 by omega, e1, e3, e4, e2]
  omega
theorem bl_low {u t m k : Nat} (hu : u < 2 ^ k) (hm : m < 2 ^ k) : (u + 2 ^ k * t) &&& m = u &&& m := by
  have e := bl_and (a := u) (b := t) (c := m) (d := 0) (k := k) hu hm
  rw [Nat.and_zero, Nat.mul_zero, Nat.zero_add, Nat.zero_add] at e
  rw [Nat.add_comm]
  exact e
/-- bitCount's numbers -/
def bl_F (n : Nat) : Nat :=
  let z1 := n - ((n / 2) &&& 1431655765)
  let z2 := (z1 &&& 858993459) + ((z1 / 4) &&& 858993459)
  let z3 := (z2 + z2 / 16) &&& 252645135
  let z4 := z3 + z3 / 256
  (z4 + z4 / 65536) % 64
theorem bl_pc8 {b m k : Nat} (hb : b < 256) : bl_pc (8 + k) (b + 256 * m) = bl_pc 8 b + bl_pc k m := by
  have e : 8 + k = k + 1 + 1 + 1 + 1 + 1 + 1 + 1 + 1 := by omega
  rw [e]
  simp only [bl_pc]
  have e2 : (b + 256 * m) / 2 / 2 / 2 / 2 / 2 / 2 / 2 / 2 = m := by omega
  rw [e2]
  omega
theorem bl_a1 {b0 b1 b2 : Nat} : (b0 + 256 * b1 + 65536 * b2) / 2 = (b0 / 2 + 2 ^ 7 * (b1 % 2)) + 256 * (b1 / 2 + 2 ^ 7 * (b2 % 2)) + 65536 * (b2 / 2) := by omega
theorem bl_a2 {z0 z1 z2 : Nat} : (z0 + 256 * z1 + 65536 * z2) / 4 = (z0 / 4 + 2 ^ 6 * (z1 % 4)) + 256 * (z1 / 4 + 2 ^ 6 * (z2 % 4)) + 65536 * (z2 / 4) := by omega
theorem bl_a3 {w0 w1 w2 : Nat} : w0 + 256 * w1 + 65536 * w2 + (w0 + 256 * w1 + 65536 * w2) / 16 = (w0 + w0 / 16 + 16 * (w1 % 16)) + 256 * (w1 + w1 / 16 + 16 * (w2 % 16)) + 65536 * (w2 + w2 / 16) := by omega
theorem bl_a4 {x y z s : Nat} (hx : x ≤ 8) (hy : y ≤ 8) (hz : z ≤ 8) (hs : s = x + 256 * y + 65536 * z) : (s + s / 256 + (s + s / 256) / 65536) % 64 = x + y + z := by
  have e1 : s / 256 = y + 256 * z := by omega
  rw [e1, hs]
  have e2 : (x + 256 * y + 65536 * z + (y + 256 * z)) / 65536 = z := by omega
  rw [e2]
  omega
theorem bl_a5 {n : Nat} (hn : n < 1048576) : ∃ b0 b1 b2, b0 < 256 ∧ b1 < 256 ∧ b2 < 16 ∧ n = b0 + 256 * b1 + 65536 * b2 := ⟨n % 256, n / 256 % 256, n / 65536, by omega, by omega, by omega, by omega⟩
theorem bl_8 {x m M : Nat} (hx : x < 256) (hm : m < 256) (hM : M = 2 ^ 8 * m + m) : x &&& M = x &&& m := by
  have := bl_and (a := x) (b := 0) (c := m) (d := m) (k := 8) hx hm
  rw [Nat.zero_and, Nat.mul_zero, Nat.zero_add, Nat.zero_add, ← hM] at this
  exact this
theorem bl_s1 {b0 b1 b2 : Nat} (h0 : b0 < 256) (h1 : b1 < 256) (h2 : b2 < 16) : ((b0 + 256 * b1 + 65536 * b2) / 2) &&& 1431655765 = ((b0 / 2) &&& 85) + 256 * ((b1 / 2) &&& 85) + 65536 * ((b2 / 2) &&& 85) := by
  rw [bl_a1, show (1431655765 : Nat) = 85 + 256 * 85 + 65536 * 21845 from rfl, bl_3 (by omega) (by omega) (by decide), bl_low (by omega) (by decide), bl_low (by omega) (by decide), bl_8 (m := 85) (M := 21845) (by omega) (by decide) rfl]
theorem bl_s3 {z0 z1 z2 : Nat} (h0 : z0 < 256) (h1 : z1 < 256) (h2 : z2 < 16) : (z0 + 256 * z1 + 65536 * z2) &&& 858993459 = (z0 &&& 51) + 256 * (z1 &&& 51) + 65536 * (z2 &&& 51) := by
  rw [show (858993459 : Nat) = 51 + 256 * 51 + 65536 * 13107 from rfl, bl_3 h0 h1 (by decide), bl_8 (m := 51) (M := 13107) (by omega) (by decide) rfl]
theorem bl_s4 {z0 z1 z2 : Nat} (h0 : z0 < 256) (h1 : z1 < 256) (h2 : z2 < 16) : ((z0 + 256 * z1 + 65536 * z2) / 4) &&& 858993459 = ((z0 / 4) &&& 51) + 256 * ((z1 / 4) &&& 51) + 65536 * ((z2 / 4) &&& 51) := by
  rw [bl_a2, show (858993459 : Nat) = 51 + 256 * 51 + 65536 * 13107 from rfl, bl_3 (by omega) (by omega) (by decide), bl_low (by omega) (by decide), bl_low (by omega) (by decide), bl_8 (m := 51) (M := 13107) (by omega) (by decide) rfl]
theorem bl_m15 (x : Nat) : x &&& 15 = x % 16 := Nat.and_two_pow_sub_one_eq_mod x 4
theorem bl_a6 {w t : Nat} : (w + w / 16 + 16 * t) % 16 = (w + w / 16) % 16 := by omega
theorem bl_s5 {w0 w1 w2 : Nat} (h0 : w0 ≤ 68) (h1 : w1 ≤ 68) (h2 : w2 ≤ 68) (g1 : w1 % 16 ≤ 4) (g2 : w2 % 16 ≤ 4) : (w0 + 256 * w1 + 65536 * w2 + (w0 + 256 * w1 + 65536 * w2) / 16) &&& 252645135 = (w0 + w0 / 16) % 16 + 256 * ((w1 + w1 / 16) % 16) + 65536 * ((w2 + w2 / 16) % 16) := by
  rw [bl_a3, show (252645135 : Nat) = 15 + 256 * 15 + 65536 * 3855 from rfl, bl_3 (by omega) (by omega) (by decide), bl_m15, bl_m15, bl_8 (m := 15) (M := 3855) (by omega) (by decide) rfl, bl_m15, bl_a6, bl_a6]
theorem bl_20 {b0 b1 b2 : Nat} (h0 : b0 < 256) (h1 : b1 < 256) (h2 : b2 < 16) : bl_pc 20 (b0 + 256 * b1 + 65536 * b2) = bl_pc 8 b0 + bl_pc 8 b1 + bl_pc 8 b2 := by
  have e1 : bl_pc 20 (b0 + 256 * (b1 + 256 * b2)) = bl_pc 8 b0 + bl_pc 12 (b1 + 256 * b2) := bl_pc8 (k := 12) h0
  have e2 : bl_pc 12 (b1 + 256 * b2) = bl_pc 8 b1 + bl_pc 4 b2 := bl_pc8 (k := 4) h1
  have e3 : ∀ x, x < 16 → bl_pc 4 x = bl_pc 8 x := by decide +kernel
  rw [show b0 + 256 * b1 + 65536 * b2 = b0 + 256 * (b1 + 256 * b2) by omega, e1, e2, e3 b2 h2, Nat.add_assoc]
theorem bl_F_pc {n : Nat} (hn : n < 1048576) : bl_F n = bl_pc 20 n := by
  obtain ⟨b0, b1, b2, h0, h1, h2, rfl⟩ := bl_a5 hn
  clear hn
  obtain ⟨p1, p2, p3, p4, p5, p6⟩ := bl_byte b0 h0
  obtain ⟨q1, q2, q3, q4, q5, q6⟩ := bl_byte b1 h1
  obtain ⟨r1, r2, r3, r4, r5, r6⟩ := bl_byte b2 (by omega)
  have s1 := bl_s1 h0 h1 h2
  have hz2 : b2 - ((b2 / 2) &&& 85) < 16 := by omega
  have s2 : (b0 + 256 * b1 + 65536 * b2) - (((b0 + 256 * b1 + 65536 * b2) / 2) &&& 1431655765) = (b0 - ((b0 / 2) &&& 85)) + 256 * (b1 - ((b1 / 2) &&& 85)) + 65536 * (b2 - ((b2 / 2) &&& 85)) := by
    rw [s1]
    clear s1 p2 p3 p4 p5 p6 q2 q3 q4 q5 q6 r2 r3 r4 r5 r6
    omega
  have s3 := bl_s3 p2 q2 hz2
  have s4 := bl_s4 p2 q2 hz2
  have s5 := bl_s5 p3 q3 r3 q4 r4
  have s6 : ((b0 - ((b0 / 2) &&& 85)) &&& 51) + 256 * ((b1 - ((b1 / 2) &&& 85)) &&& 51) + 65536 * ((b2 - ((b2 / 2) &&& 85)) &&& 51) + (((b0 - ((b0 / 2) &&& 85)) / 4 &&& 51) + 256 * ((b1 - ((b1 / 2) &&& 85)) / 4 &&& 51) + 65536 * ((b2 - ((b2 / 2) &&& 85)) / 4 &&& 51)) = bl_v b0 + 256 * bl_v b1 + 65536 * bl_v b2 := by
    unfold bl_v
    clear s1 s2 s3 s4 s5 hz2 p1 p2 p3 p4 p5 p6 q1 q2 q3 q4 q5 q6 r1 r2 r3 r4 r5 r6
    generalize (b0 - ((b0 / 2) &&& 85)) &&& 51 = a0
    generalize (b1 - ((b1 / 2) &&& 85)) &&& 51 = a1
    generalize (b2 - ((b2 / 2) &&& 85)) &&& 51 = a2
    generalize (b0 - ((b0 / 2) &&& 85)) / 4 &&& 51 = c0
    generalize (b1 - ((b1 / 2) &&& 85)) / 4 &&& 51 = c1
    generalize (b2 - ((b2 / 2) &&& 85)) / 4 &&& 51 = c2
    omega
  rw [bl_20 h0 h1 h2]
  unfold bl_F
  rw [s2]
  dsimp only
  rw [s3, s4, s6, s5, p5, q5, r5]
  exact bl_a4 p6 q6 r6 rfl
theorem bl_fa_and (a b : Nat) : nI a &&& nI b = nI (a &&& b) := by
  apply Int32.toBitVec_inj.1
  show BitVec.ofNat 32 a &&& BitVec.ofNat 32 b = BitVec.ofNat 32 (a &&& b)
  apply BitVec.eq_of_getLsbD_eq
  intro i hi
  simp [hi]
theorem bl_fa_or (a b : Nat) : nI a ||| nI b = nI (a ||| b) := by
  apply Int32.toBitVec_inj.1
  show BitVec.ofNat 32 a ||| BitVec.ofNat 32 b = BitVec.ofNat 32 (a ||| b)
  apply BitVec.eq_of_getLsbD_eq
  intro i hi
  simp [hi]
/-- the number that bits make -/
def bf_N (p : Nat → Bool) : Nat → Nat
  | 0 => 0
  | n + 1 => if p n then bf_N p n + 2 ^ n else bf_N p n
theorem bf_N_lt (p : Nat → Bool) : ∀ n, bf_N p n < 2 ^ n
  | 0 => Nat.zero_lt_one
  | n + 1 => by
    have h := bf_N_lt p n
    show (if p n then bf_N p n + 2 ^ n else bf_N p n) < 2 ^ (n + 1)
    rw [Nat.pow_succ]
    split <;> omega
theorem bl_sh : ∀ n, n < 32 → (1 : Int32) <<< (nI n &&& 31) = nI (2 ^ n) := by decide +kernel
theorem bf_bits_N (p : Nat → Bool) : ∀ n, n ≤ 20 → bf_bits p n = nI (bf_N p n)
  | 0, _ => rfl
  | n + 1, h => by
    have e := bf_bits_N p n (by omega)
    show (if p n then bf_bits p n ||| (1 <<< (nI n &&& 31)) else bf_bits p n) = nI (if p n then bf_N p n + 2 ^ n else bf_N p n)
    cases p n
    · exact e
    · show bf_bits p n ||| (1 <<< (nI n &&& 31)) = nI (bf_N p n + 2 ^ n)
      rw [e, bl_sh n (by omega), bl_fa_or]
      have := Nat.two_pow_add_eq_or_of_lt (bf_N_lt p n) 1
      rw [Nat.mul_one] at this
      rw [Nat.or_comm, ← this, Nat.add_comm]
theorem bl_pc_top : ∀ (k : Nat) {n x : Nat}, n < k → x < 2 ^ n → bl_pc k (x + 2 ^ n) = bl_pc k x + 1
  | 0, n, x, h, _ => absurd h (Nat.not_lt_zero n)
  | k + 1, 0, x, _, hx => by
    obtain rfl : x = 0 := by omega
    show 1 + bl_pc k 0 = 0 + bl_pc k 0 + 1
    omega
  | k + 1, n + 1, x, h, hx => by
    have e := bl_pc_top k (n := n) (x := x / 2) (by omega) (by rw [Nat.pow_succ] at hx; omega)
    simp only [bl_pc]
    rw [Nat.pow_succ] at hx ⊢
    rw [show (x + 2 ^ n * 2) % 2 = x % 2 by omega, show (x + 2 ^ n * 2) / 2 = x / 2 + 2 ^ n by omega, e]
    omega
theorem bl_pc_0 : ∀ k, bl_pc k 0 = 0
  | 0 => rfl
  | k + 1 => by simp [bl_pc, bl_pc_0 k]
theorem bf_N_pc (p : Nat → Bool) : ∀ n, n ≤ 20 → bl_pc 20 (bf_N p n) = bf_cn p n
  | 0, _ => bl_pc_0 20
  | n + 1, h => by
    have e := bf_N_pc p n (by omega)
    show bl_pc 20 (if p n then bf_N p n + 2 ^ n else bf_N p n) = (if p n then bf_cn p n + 1 else bf_cn p n)
    cases p n
    · exact e
    · show bl_pc 20 (bf_N p n + 2 ^ n) = bf_cn p n + 1
      rw [bl_pc_top 20 (by omega) (bf_N_lt p n), e]
theorem bl_us (n : Nat) (h : n < 2 ^ 32) (s : Int32) (k : Nat) (hs : ((s.toUInt32 &&& Int32.toUInt32 31).toBitVec % 32).toNat = k) : ((nI n).toUInt32 >>> (s.toUInt32 &&& Int32.toUInt32 31)).toInt32 = nI (n / 2 ^ k) := pk_ushrN h s k hs
theorem x_J6_bitCount {d n : Nat} {M : bb_M} {k : Option bb_V → bb_M → Prop} (hn : n < 1048576) : bb_call (bb_CL (d + 1)) 1 [bb_I (nI n)] M k ↔ k (some (bb_I (nI (bl_pc 20 n)))) M := by
  refine bb_cal (st_J6_bitCount ?_)
  simp only [e_J6_bitCount_0, e_J6_bitCount_1, e_J6_bitCount_2, e_J6_bitCount_3, e_J6_bitCount_4, e_J6_bitCount_7, e_J6_bitCount_8, e_J6_bitCount_9, e_J6_bitCount_10, e_J6_bitCount_11, e_J6_bitCount_14, e_J6_bitCount_15, e_J6_bitCount_16, e_J6_bitCount_17, e_J6_bitCount_18, e_J6_bitCount_21, e_J6_bitCount_22, e_J6_bitCount_23, e_J6_bitCount_24, e_J6_bitCount_25, e_J6_bitCount_26, e_J6_bitCount_27, e_J6_bitCount_28, e_J6_bitCount_29, e_J6_bitCount_32, e_J6_bitCount_33, e_J6_bitCount_34, e_J6_bitCount_35, e_J6_bitCount_36, e_J6_bitCount_38, e_J6_bitCount_39, e_J6_bitCount_40, e_J6_bitCount_41, e_J6_bitCount_42, e_J6_bitCount_43, e_J6_bitCount_45, e_J6_bitCount_46, e_J6_bitCount_47, e_J6_bitCount_48, e_J6_bitCount_49, e_J6_bitCount_51, e_J6_bitCount_52]
  refine ⟨?_, trivial⟩
  rw [← bl_F_pc hn]
  congr 2
  have l1 : (n / 2) &&& 1431655765 ≤ n := Nat.le_trans Nat.and_le_left (by omega)
  unfold bl_F
  simp only []
  rw [bl_us n (by omega) 1 1 (by decide +kernel), show (1431655765 : Int32) = nI 1431655765 from rfl, bl_fa_and, pk_sub (by simpa using l1)]
  generalize hz1 : n - ((n / 2) &&& 1431655765) = z1
  have g1 : z1 < 1048576 := by omega
  rw [bl_us z1 (by omega) 2 2 (by decide +kernel), show (858993459 : Int32) = nI 858993459 from rfl, bl_fa_and, bl_fa_and, nI_add]
  have g2 : (z1 &&& 858993459) + ((z1 / 4) &&& 858993459) < 2097152 := by
    have a1 : z1 &&& 858993459 ≤ z1 := Nat.and_le_left
    have a2 : (z1 / 4) &&& 858993459 ≤ z1 / 4 := Nat.and_le_left
    omega
  rw [show z1 / 2 ^ 2 = z1 / 4 from rfl]
  generalize (z1 &&& 858993459) + ((z1 / 4) &&& 858993459) = z2 at g2
  rw [bl_us z2 (by omega) 4 4 (by decide +kernel), nI_add, show (252645135 : Int32) = nI 252645135 from rfl, bl_fa_and]
  rw [show z2 / 2 ^ 4 = z2 / 16 from rfl]
  have g3 : (z2 + z2 / 16) &&& 252645135 < 4194304 := Nat.lt_of_le_of_lt Nat.and_le_left (by omega)
  generalize (z2 + z2 / 16) &&& 252645135 = z3 at g3
  rw [bl_us z3 (by omega) 8 8 (by decide +kernel), nI_add, show z3 / 2 ^ 8 = z3 / 256 from rfl]
  generalize hz4 : z3 + z3 / 256 = z4
  have g4 : z4 < 8388608 := by omega
  rw [bl_us z4 (by omega) 16 16 (by decide +kernel), nI_add, show (63 : Int32) = nI 63 from rfl, bl_fa_and, show z4 / 2 ^ 16 = z4 / 65536 from rfl]
  rw [Nat.and_two_pow_sub_one_eq_mod _ 6]
theorem bl_drop : ∀ (k n : Nat), 0 < n → n < 2 ^ k → bl_pc k (n &&& (n - 1)) + 1 = bl_pc k n
  | 0, n, h, h2 => by omega
  | k + 1, n, h, h2 => by
    rw [Nat.pow_succ] at h2
    rcases Nat.mod_two_eq_zero_or_one n with q | q
    · have e := bl_drop k (n / 2) (by omega) (by omega)
      have e1 := bl_and (a := 0) (b := n / 2) (c := 1) (d := n / 2 - 1) (k := 1) (by omega) (by omega)
      rw [show 2 ^ 1 * (n / 2) + 0 = n by omega, show 2 ^ 1 * (n / 2 - 1) + 1 = n - 1 by omega, Nat.zero_and] at e1
      rw [e1]
      simp only [bl_pc]
      rw [show (2 ^ 1 * ((n / 2) &&& (n / 2 - 1)) + 0) % 2 = 0 by omega, show (2 ^ 1 * ((n / 2) &&& (n / 2 - 1)) + 0) / 2 = (n / 2) &&& (n / 2 - 1) by omega]
      omega
    · have e1 := bl_and (a := 1) (b := n / 2) (c := 0) (d := n / 2) (k := 1) (by omega) (by omega)
      rw [show 2 ^ 1 * (n / 2) + 1 = n by omega, show 2 ^ 1 * (n / 2) + 0 = n - 1 by omega, Nat.and_zero, Nat.and_self] at e1
      rw [e1]
      simp only [bl_pc]
      rw [show (2 ^ 1 * (n / 2) + 0) % 2 = 0 by omega, show (2 ^ 1 * (n / 2) + 0) / 2 = n / 2 by omega]
      omega