/-! numbers: an Int32 by its unsigned value -/
abbrev un (x : Int32) : Nat := x.toBitVec.toNat
theorem un_lt (x : Int32) : un x < 4294967296 := x.toBitVec.isLt
theorem un_inj {x y : Int32} (h : un x = un y) : x = y := Int32.toBitVec_inj.mp (BitVec.eq_of_toNat_eq h)
theorem un_nI {n : Nat} (h : n < 4294967296) : un (nI n) = n := pk_tn h
theorem un_nIm (n : Nat) : un (nI n) = n % 4294967296 := by
  show (BitVec.ofNat 32 n).toNat = n % 4294967296
  rw [BitVec.toNat_ofNat]
theorem nI_cong {a b : Nat} (h : a % 4294967296 = b % 4294967296) : nI a = nI b := un_inj (by rw [un_nIm, un_nIm, h])
theorem un_add (x y : Int32) : un (x + y) = (un x + un y) % 4294967296 := by
  show (x + y).toBitVec.toNat = _
  rw [Int32.toBitVec_add, BitVec.toNat_add]
theorem un_mul (x y : Int32) : un (x * y) = (un x * un y) % 4294967296 := by
  show (x * y).toBitVec.toNat = _
  rw [Int32.toBitVec_mul, BitVec.toNat_mul]
theorem un_sub (x y : Int32) : un (x - y) = (4294967296 - un y + un x) % 4294967296 := by
  show (x - y).toBitVec.toNat = _
  rw [Int32.toBitVec_sub, BitVec.toNat_sub]
theorem un_jush (x s : Int32) (k : Nat) (hs : ((s.toUInt32 &&& Int32.toUInt32 31).toBitVec % 32).toNat = k) : un (jush x s) = un x / 2 ^ k := pk_ushr x s k hs
theorem un_and (x m : Int32) (k : Nat) (hk : k ≤ 32) (hm : m.toBitVec.toNat = 2 ^ k - 1) : un (x &&& m) = un x % 2 ^ k := by
  rw [pk_and x k hm, un_nI]
  have := Nat.mod_lt (un x) (show 0 < 2 ^ k from Nat.pow_pos (by decide))
  have h2 : 2 ^ k ≤ 2 ^ 32 := Nat.pow_le_pow_right (by decide) hk
  omega
theorem un_shl (x s : Int32) (k : Nat) (hs : (s.toBitVec.smod 32).toNat = k) : un (x <<< s) = un x * 2 ^ k % 4294967296 := pk_shl x s k hs
theorem un_or (x y : Int32) : un (x ||| y) = un x ||| un y := by
  show (x ||| y).toBitVec.toNat = _
  rw [Int32.toBitVec_or, BitVec.toNat_or]
theorem or_add {a b : Nat} (k : Nat) (ha : a % 2 ^ k = 0) (hb : b < 2 ^ k) : a ||| b = a + b := by
  obtain ⟨q, rfl⟩ : ∃ q, a = 2 ^ k * q := ⟨a / 2 ^ k, by have := Nat.div_add_mod a (2 ^ k); omega⟩
  exact (Nat.two_pow_add_eq_or_of_lt hb q).symm
theorem or_addP {a b : Nat} (k P : Nat) (hP : 2 ^ k = P) (ha : a % P = 0) (hb : b < P) : a ||| b = a + b := by
  subst hP
  exact or_add k ha hb
theorem un_hi (x m : Int32) (k : Nat) (hk : k < 32) (hm : ∀ i, i < 32 → m.toBitVec.getLsbD i = decide (k ≤ i)) : un (x &&& m) = un x / 2 ^ k * 2 ^ k := by
  have e : (x &&& m).toBitVec = (x.toBitVec >>> k) <<< k := by
    rw [Int32.toBitVec_and]
    apply BitVec.eq_of_getLsbD_eq
    intro i hi
    rw [BitVec.getLsbD_and, hm i hi, BitVec.getLsbD_shiftLeft]
    by_cases h : k ≤ i
    · have h1 : ¬ i < k := by omega
      rw [BitVec.getLsbD_ushiftRight, show k + (i - k) = i by omega]
      simp [h, h1, hi]
    · have h1 : i < k := by omega
      simp [h, h1]
  show (x &&& m).toBitVec.toNat = _
  rw [e, BitVec.toNat_shiftLeft, BitVec.toNat_ushiftRight, Nat.shiftLeft_eq, Nat.shiftRight_eq_div_pow]
  apply Nat.mod_eq_of_lt
  exact Nat.lt_of_le_of_lt (Nat.div_mul_le_self _ _) x.toBitVec.isLt
theorem un_int (x : Int32) : x.toInt = if un x < 2147483648 then (un x : Int) else (un x : Int) - 4294967296 := by
  show x.toBitVec.toInt = _
  rw [BitVec.toInt_eq_toNat_cond]
  show (if 2 * un x < 4294967296 then _ else _) = _
  by_cases h : un x < 2147483648
  · rw [if_pos h, if_pos (by omega)]
  · rw [if_neg h, if_neg (by omega)]
    rfl
theorem neg_un (x : Int32) : x < 0 ↔ ¬ un x < 2147483648 := by
  rw [Int32.lt_iff_toInt_lt, un_int]
  have := un_lt x
  show _ < (0 : Int) ↔ _
  split <;> omega
theorem nn_un (x : Int32) : 0 ≤ x ↔ un x < 2147483648 := by
  rw [Int32.le_iff_toInt_le, un_int x]
  have := un_lt x
  show (0 : Int) ≤ _ ↔ _
  split <;> omega
theorem z_un (x : Int32) : x = 0 ↔ un x = 0 := ⟨fun h => by rw [h]; rfl, fun h => un_inj h⟩
theorem eq_un (x : Int32) (n : Nat) (h : n < 4294967296) : x = nI n ↔ un x = n := ⟨fun q => by rw [q, un_nI h], fun q => un_inj (by rw [q, un_nI h])⟩
/-- bits(w, f, t) -/
theorem rb (w f t : Int32) (d k : Nat) (hd : ((f.toInt64 &&& 63 : Int64).toBitVec.smod 64).toNat = d) (hm : (((1 : Int64) <<< (((t - f) + (1 : Int32)).toInt64 &&& 63)) - (1 : Int64)) = lN (2 ^ k - 1)) (hk : k ≤ 32) : r_bits w f t = nI (un w / 2 ^ d % 2 ^ k) := by
  unfold r_bits
  dsimp only
  have h1 := un_lt w
  have h2 : un w / 2 ^ d ≤ un w := Nat.div_le_self _ _
  rw [hm, r_plain_n, pf_shr hd (show un w < 2 ^ 62 by omega), wb_mask (show un w / 2 ^ d < 2 ^ 64 by omega) (show k < 64 by omega), lN_i]
theorem urb (w f t : Int32) (d k : Nat) (hd : ((f.toInt64 &&& 63 : Int64).toBitVec.smod 64).toNat = d) (hm : (((1 : Int64) <<< (((t - f) + (1 : Int32)).toInt64 &&& 63)) - (1 : Int64)) = lN (2 ^ k - 1)) (hk : k ≤ 32) : un (r_bits w f t) = un w / 2 ^ d % 2 ^ k := by
  rw [rb w f t d k hd hm hk, un_nI]
  have h1 := un_lt w
  have h2 : un w / 2 ^ d ≤ un w := Nat.div_le_self _ _
  have h3 := Nat.mod_le (un w / 2 ^ d) (2 ^ k)
  omega
theorem u_0_0 (w : Int32) : un (r_bits w 0 0) = un w % 2 := by rw [urb w 0 0 0 1 (by decide) (by decide) (by decide)]; omega
theorem u_0_1 (w : Int32) : un (r_bits w 0 1) = un w % 4 := by rw [urb w 0 1 0 2 (by decide) (by decide) (by decide)]; omega
theorem u_0_4 (w : Int32) : un (r_bits w 0 4) = un w % 32 := by rw [urb w 0 4 0 5 (by decide) (by decide) (by decide)]; omega
theorem u_0_6 (w : Int32) : un (r_bits w 0 6) = un w % 128 := by rw [urb w 0 6 0 7 (by decide) (by decide) (by decide)]; omega
theorem u_0_11 (w : Int32) : un (r_bits w 0 11) = un w % 4096 := by rw [urb w 0 11 0 12 (by decide) (by decide) (by decide)]; omega
theorem u_0_21 (w : Int32) : un (r_bits w 0 21) = un w % 4194304 := by rw [urb w 0 21 0 22 (by decide) (by decide) (by decide)]; omega
theorem u_1_3 (w : Int32) : un (r_bits w 1 3) = un w / 2 % 8 := by rw [urb w 1 3 1 3 (by decide) (by decide) (by decide)]
theorem u_7_7 (w : Int32) : un (r_bits w 7 7) = un w / 128 % 2 := by rw [urb w 7 7 7 1 (by decide) (by decide) (by decide)]
theorem u_7_11 (w : Int32) : un (r_bits w 7 11) = un w / 128 % 32 := by rw [urb w 7 11 7 5 (by decide) (by decide) (by decide)]
theorem u_8_11 (w : Int32) : un (r_bits w 8 11) = un w / 256 % 16 := by rw [urb w 8 11 8 4 (by decide) (by decide) (by decide)]
theorem u_10_19 (w : Int32) : un (r_bits w 10 19) = un w / 1024 % 1024 := by rw [urb w 10 19 10 10 (by decide) (by decide) (by decide)]
theorem u_10_31 (w : Int32) : un (r_bits w 10 31) = un w / 1024 % 4194304 := by rw [urb w 10 31 10 22 (by decide) (by decide) (by decide)]
theorem u_12_14 (w : Int32) : un (r_bits w 12 14) = un w / 4096 % 8 := by rw [urb w 12 14 12 3 (by decide) (by decide) (by decide)]
theorem u_12_19 (w : Int32) : un (r_bits w 12 19) = un w / 4096 % 256 := by rw [urb w 12 19 12 8 (by decide) (by decide) (by decide)]
theorem u_12_21 (w : Int32) : un (r_bits w 12 21) = un w / 4096 % 1024 := by rw [urb w 12 21 12 10 (by decide) (by decide) (by decide)]
theorem u_15_19 (w : Int32) : un (r_bits w 15 19) = un w / 32768 % 32 := by rw [urb w 15 19 15 5 (by decide) (by decide) (by decide)]
theorem u_20_20 (w : Int32) : un (r_bits w 20 20) = un w / 1048576 % 2 := by rw [urb w 20 20 20 1 (by decide) (by decide) (by decide)]
theorem u_20_24 (w : Int32) : un (r_bits w 20 24) = un w / 1048576 % 32 := by rw [urb w 20 24 20 5 (by decide) (by decide) (by decide)]
theorem u_20_31 (w : Int32) : un (r_bits w 20 31) = un w / 1048576 % 4096 := by rw [urb w 20 31 20 12 (by decide) (by decide) (by decide)]
theorem u_21_30 (w : Int32) : un (r_bits w 21 30) = un w / 2097152 % 1024 := by rw [urb w 21 30 21 10 (by decide) (by decide) (by decide)]
theorem u_22_31 (w : Int32) : un (r_bits w 22 31) = un w / 4194304 % 1024 := by rw [urb w 22 31 22 10 (by decide) (by decide) (by decide)]
theorem u_25_30 (w : Int32) : un (r_bits w 25 30) = un w / 33554432 % 64 := by rw [urb w 25 30 25 6 (by decide) (by decide) (by decide)]
theorem u_25_31 (w : Int32) : un (r_bits w 25 31) = un w / 33554432 % 128 := by rw [urb w 25 31 25 7 (by decide) (by decide) (by decide)]
theorem j_2 (w : Int32) : un (jush w 2) = un w / 4 := un_jush w 2 2 (by decide)
theorem j_7 (w : Int32) : un (jush w 7) = un w / 128 := un_jush w 7 7 (by decide)
theorem j_8 (w : Int32) : un (jush w 8) = un w / 256 := un_jush w 8 8 (by decide)
theorem j_10 (w : Int32) : un (jush w 10) = un w / 1024 := un_jush w 10 10 (by decide)
theorem j_12 (w : Int32) : un (jush w 12) = un w / 4096 := un_jush w 12 12 (by decide)
theorem j_15 (w : Int32) : un (jush w 15) = un w / 32768 := un_jush w 15 15 (by decide)
theorem j_20 (w : Int32) : un (jush w 20) = un w / 1048576 := un_jush w 20 20 (by decide)
theorem j_21 (w : Int32) : un (jush w 21) = un w / 2097152 := un_jush w 21 21 (by decide)
theorem j_22 (w : Int32) : un (jush w 22) = un w / 4194304 := un_jush w 22 22 (by decide)
theorem j_25 (w : Int32) : un (jush w 25) = un w / 33554432 := un_jush w 25 25 (by decide)
theorem a_1 (w : Int32) : un (w &&& 1) = un w % 2 := un_and w 1 1 (by decide) rfl
theorem a_3 (w : Int32) : un (w &&& 3) = un w % 4 := un_and w 3 2 (by decide) rfl
theorem a_7 (w : Int32) : un (w &&& 7) = un w % 8 := un_and w 7 3 (by decide) rfl
theorem a_15 (w : Int32) : un (w &&& 15) = un w % 16 := un_and w 15 4 (by decide) rfl
theorem a_31 (w : Int32) : un (w &&& 31) = un w % 32 := un_and w 31 5 (by decide) rfl
theorem a_63 (w : Int32) : un (w &&& 63) = un w % 64 := un_and w 63 6 (by decide) rfl
theorem a_127 (w : Int32) : un (w &&& 127) = un w % 128 := un_and w 127 7 (by decide) rfl
theorem a_255 (w : Int32) : un (w &&& 255) = un w % 256 := un_and w 255 8 (by decide) rfl
theorem a_1023 (w : Int32) : un (w &&& 1023) = un w % 1024 := un_and w 1023 10 (by decide) rfl
theorem a_4095 (w : Int32) : un (w &&& 4095) = un w % 4096 := un_and w 4095 12 (by decide) rfl
theorem a_65535 (w : Int32) : un (w &&& 65535) = un w % 65536 := un_and w 65535 16 (by decide) rfl
theorem a_22 (w : Int32) : un (w &&& 4194303) = un w % 4194304 := un_and w 4194303 22 (by decide) rfl
theorem a_m2 (w : Int32) : un (w &&& (-2)) = un w / 2 * 2 := un_hi w (-2) 1 (by decide) (by decide)
theorem a_m4 (w : Int32) : un (w &&& (-4)) = un w / 4 * 4 := un_hi w (-4) 2 (by decide) (by decide)
theorem a_m4096 (w : Int32) : un (w &&& (-4096)) = un w / 4096 * 4096 := un_hi w (-4096) 12 (by decide) (by decide)
theorem s_1 (w : Int32) : un (w <<< ((1 : Int32) &&& 31)) = un w * 2 % 4294967296 := un_shl w _ 1 (by decide)
theorem s_2 (w : Int32) : un (w <<< ((2 : Int32) &&& 31)) = un w * 4 % 4294967296 := un_shl w _ 2 (by decide)
theorem s_3 (w : Int32) : un (w <<< ((3 : Int32) &&& 31)) = un w * 8 % 4294967296 := un_shl w _ 3 (by decide)
theorem s_5 (w : Int32) : un (w <<< ((5 : Int32) &&& 31)) = un w * 32 % 4294967296 := un_shl w _ 5 (by decide)
theorem s_8 (w : Int32) : un (w <<< ((8 : Int32) &&& 31)) = un w * 256 % 4294967296 := un_shl w _ 8 (by decide)
theorem s_11 (w : Int32) : un (w <<< ((11 : Int32) &&& 31)) = un w * 2048 % 4294967296 := un_shl w _ 11 (by decide)
theorem s_12 (w : Int32) : un (w <<< ((12 : Int32) &&& 31)) = un w * 4096 % 4294967296 := un_shl w _ 12 (by decide)
theorem s_20 (w : Int32) : un (w <<< ((20 : Int32) &&& 31)) = un w * 1048576 % 4294967296 := un_shl w _ 20 (by decide)
/-! the fields of an instruction -/
theorem e_f (w : Int32) : r_bits w 12 14 = h_fOf w := un_inj (by unfold h_fOf; rw [u_12_14, a_7, j_12])
theorem e_g (w : Int32) : r_bits w 25 31 = h_gOf w := un_inj (by unfold h_gOf; rw [u_25_31, j_25]; have := un_lt w; omega)
theorem e_D (w : Int32) : r_bits w 7 11 = jush w 7 &&& 31 := un_inj (by rw [u_7_11, a_31, j_7])
theorem e_A (w : Int32) : r_bits w 15 19 = jush w 15 &&& 31 := un_inj (by rw [u_15_19, a_31, j_15])
theorem e_B (w : Int32) : r_bits w 20 24 = jush w 20 &&& 31 := un_inj (by rw [u_20_24, a_31, j_20])
theorem e_N (w : Int32) : r_bits w 20 31 = jush w 20 := un_inj (by rw [u_20_31, j_20]; have := un_lt w; omega)
theorem e_op (w : Int32) : r_bits w 0 6 = w &&& 127 := un_inj (by rw [u_0_6, a_127])
theorem e_31 (b : Int32) : r_bits b 0 4 = b &&& 31 := un_inj (by rw [u_0_4, a_31])
theorem e_U (w : Int32) : w - r_bits w 0 11 = h_uOf w := un_inj (by unfold h_uOf; rw [un_sub, u_0_11, a_m4096]; have := un_lt w; omega)
theorem e_m4 (w : Int32) : w - r_bits w 0 1 = w &&& (-4) := un_inj (by rw [un_sub, u_0_1, a_m4]; have := un_lt w; omega)
theorem e_m2 (w : Int32) : w - r_bits w 0 0 = w &&& (-2) := un_inj (by rw [un_sub, u_0_0, a_m2]; have := un_lt w; omega)
theorem e_al (w : Int32) : r_bits w 0 1 = w &&& 3 := un_inj (by rw [u_0_1, a_3])
theorem e_b0 (w : Int32) : r_bits w 0 0 = w &&& 1 := un_inj (by rw [u_0_0, a_1])
theorem e_S (w a : Int32) : a + h_sOf w = (a + (w >>> ((25 : Int32) &&& 31)) * 32) + r_bits w 7 11 := by
  have e : h_sOf w = (w >>> ((25 : Int32) &&& 31)) * 32 + r_bits w 7 11 := un_inj (by
    unfold h_sOf
    dsimp only
    rw [un_or, s_5, a_31, j_7, un_add, un_mul, u_7_11, show un (32 : Int32) = 32 from rfl]
    rw [or_add 5 (by omega) (by omega)]
    omega)
  rw [e, Int32.add_assoc]
theorem e_J (w : Int32) : h_jumpDistance w = r_far w := un_inj (by
  unfold h_jumpDistance r_far
  dsimp only
  rw [un_or, un_or, un_or, s_20, s_12, a_255, j_12, s_11, a_1, j_20, s_1, a_1023, j_21, un_add, un_add, un_add, un_mul, un_mul, un_mul, un_mul, u_12_19, u_20_20, u_21_30, show un (1048576 : Int32) = 1048576 from rfl, show un (4096 : Int32) = 4096 from rfl, show un (2048 : Int32) = 2048 from rfl, show un (2 : Int32) = 2 from rfl]
  have c1 : un w / 4096 % 256 < 256 := Nat.mod_lt _ (by decide)
  have c2 : un w / 1048576 % 2 < 2 := Nat.mod_lt _ (by decide)
  have c3 : un w / 2097152 % 1024 < 1024 := Nat.mod_lt _ (by decide)
  generalize un (w >>> ((31 : Int32) &&& 31)) = q
  generalize un w / 4096 % 256 = x1 at *
  generalize un w / 1048576 % 2 = x2 at *
  generalize un w / 2097152 % 1024 = x3 at *
  have hq : q * 1048576 % 4294967296 = (q % 4096) * 1048576 := by omega
  have hq2 : q % 4096 < 4096 := Nat.mod_lt _ (by decide)
  rw [hq]
  generalize q % 4096 = z at *
  rw [Nat.mod_eq_of_lt (show x1 * 4096 < 4294967296 by omega), Nat.mod_eq_of_lt (show x2 * 2048 < 4294967296 by omega), Nat.mod_eq_of_lt (show x3 * 2 < 4294967296 by omega)]
  rw [or_addP (a := z * 1048576) (b := x1 * 4096) 20 1048576 rfl (by rw [show z * 1048576 = (z) * 1048576 by omega]; exact Nat.mul_mod_left _ _) (by omega), or_addP (a := z * 1048576 + x1 * 4096) (b := x2 * 2048) 12 4096 rfl (by rw [show z * 1048576 + x1 * 4096 = (z * 256 + x1) * 4096 by omega]; exact Nat.mul_mod_left _ _) (by omega), or_addP (a := z * 1048576 + x1 * 4096 + x2 * 2048) (b := x3 * 2) 11 2048 rfl (by rw [show z * 1048576 + x1 * 4096 + x2 * 2048 = (z * 512 + x1 * 2 + x2) * 2048 by omega]; exact Nat.mul_mod_left _ _) (by omega)]
  omega)
theorem e_C (w : Int32) : h_branchDistance w = r_near w := un_inj (by
  unfold h_branchDistance r_near
  dsimp only
  rw [un_or, un_or, un_or, s_12, s_11, a_1, j_7, s_5, a_63, j_25, s_1, a_15, j_8, un_add, un_add, un_add, un_mul, un_mul, un_mul, un_mul, u_7_7, u_25_30, u_8_11, show un (4096 : Int32) = 4096 from rfl, show un (2048 : Int32) = 2048 from rfl, show un (32 : Int32) = 32 from rfl, show un (2 : Int32) = 2 from rfl]
  have c1 : un w / 128 % 2 < 2 := Nat.mod_lt _ (by decide)
  have c2 : un w / 33554432 % 64 < 64 := Nat.mod_lt _ (by decide)
  have c3 : un w / 256 % 16 < 16 := Nat.mod_lt _ (by decide)
  generalize un (w >>> ((31 : Int32) &&& 31)) = q
  generalize un w / 128 % 2 = x1 at *
  generalize un w / 33554432 % 64 = x2 at *
  generalize un w / 256 % 16 = x3 at *
  have hq : q * 4096 % 4294967296 = (q % 1048576) * 4096 := by omega
  have hq2 : q % 1048576 < 1048576 := Nat.mod_lt _ (by decide)
  rw [hq]
  generalize q % 1048576 = z at *
  rw [Nat.mod_eq_of_lt (show x1 * 2048 < 4294967296 by omega), Nat.mod_eq_of_lt (show x2 * 32 < 4294967296 by omega), Nat.mod_eq_of_lt (show x3 * 2 < 4294967296 by omega)]
  rw [or_addP (a := z * 4096) (b := x1 * 2048) 12 4096 rfl (by rw [show z * 4096 = (z) * 4096 by omega]; exact Nat.mul_mod_left _ _) (by omega), or_addP (a := z * 4096 + x1 * 2048) (b := x2 * 32) 11 2048 rfl (by rw [show z * 4096 + x1 * 2048 = (z * 2 + x1) * 2048 by omega]; exact Nat.mul_mod_left _ _) (by omega), or_addP (a := z * 4096 + x1 * 2048 + x2 * 32) (b := x3 * 2) 5 32 rfl (by rw [show z * 4096 + x1 * 2048 + x2 * 32 = (z * 128 + x1 * 64 + x2) * 32 by omega]; exact Nat.mul_mod_left _ _) (by omega)]
  omega)
/-! memory -/
theorem e_isW (a : Int32) : r_isWord a = h_isInMemory a := by
  have key : ∀ b : Int32, (0 ≤ lg_cmp (r_plain b) (262144 : Int64)) ↔ ¬ un b < 262144 := by
    intro b
    rw [lg_cmp_ge, r_plain_n]
    have h := un_lt b
    show lN 262144 ≤ lN (un b) ↔ _
    rw [pk_lLE (by decide) (by omega)]
    omega
  have hle : ((262144 : Int32) ≤ a) ↔ (un a < 2147483648 ∧ 262144 ≤ un a) := by
    rw [Int32.le_iff_toInt_le, un_int a]
    have := un_lt a
    show (262144 : Int) ≤ _ ↔ _
    split <;> omega
  unfold r_isWord h_isInMemory
  dsimp only
  by_cases h : un a < 262144
  · rw [if_neg (fun q => (key a).mp q h), if_neg (fun q => (neg_un a).mp q (by omega)), if_neg (fun q => by have := (hle.mp q).2; omega)]
  · rw [if_pos ((key a).mpr h)]
    by_cases h2 : a < 0
    · rw [if_pos h2]
    · rw [if_neg h2, if_pos (hle.mpr ⟨by have := mt (neg_un a).mpr h2; omega, by omega⟩)]
theorem e_ix {a : Int32} (h : ¬ h_isInMemory a = 0) : (a / (4 : Int32)).toNatClampNeg = (jush a (2 : Int32)).toNatClampNeg := by
  obtain ⟨j, hj, rfl⟩ := h_mem_of h
  rw [h_ush2 hj, r_div4 hj]
