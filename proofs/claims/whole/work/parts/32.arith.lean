/-! arithmetic: the class's and the reference's -/
theorem un_toInt (x : Int32) : (un x : Int) = x.toInt % 4294967296 := by
  rw [un_int]
  have := un_lt x
  split <;> omega
theorem sm32 : ∀ j, j < 32 → ((nI j).toBitVec.smod 32).toNat = j := by decide
theorem um32 : ∀ j, j < 32 → (((nI j).toUInt32 &&& Int32.toUInt32 31).toBitVec % 32).toNat = j := by decide
theorem and31 (n : Int32) : n &&& 31 = nI (un n % 32) := un_inj (by rw [a_31, un_nI (by omega)])
theorem and31b (n : Int32) : (n &&& 31) &&& 31 = n &&& 31 := un_inj (by rw [a_31, a_31]; omega)
theorem shl_un (a n : Int32) : un (a <<< (n &&& 31)) = un a * 2 ^ (un n % 32) % 4294967296 := by
  rw [and31 n]
  exact un_shl a _ _ (sm32 _ (Nat.mod_lt _ (by decide)))
theorem e_pow (a n : Int32) : a * r_power n = a <<< (n &&& 31) := un_inj (by
  unfold r_power
  rw [un_mul, shl_un, shl_un, show un (1 : Int32) = 1 from rfl, Nat.one_mul, Nat.mul_mod, Nat.mod_mod, ← Nat.mul_mod])
theorem e_ushr (a n : Int32) (hn : un n < 32) : r_right a n 0 = jush a n := un_inj (by
  unfold r_right
  dsimp only
  rw [if_pos rfl]
  have h := un_lt a
  have e : un (jush a n) = un a / 2 ^ (un n) := un_jush a n _ (by have q := um32 (un n) hn; rw [← n_of n] at q; exact q)
  rw [e, r_plain_n]
  have hd : ((n.toInt64 &&& 63 : Int64).toBitVec.smod 64).toNat = un n := by
    have q : (nI (un n)).toInt64 &&& 63 = lN (un n) := wb_c _ (by omega)
    rw [← n_of n] at q
    rw [q, wb_tb, wb_sm _ (by omega), BitVec.toNat_ofNat, Nat.mod_eq_of_lt (by omega)]
  have hle : un a / 2 ^ un n ≤ un a := Nat.div_le_self _ _
  rw [pf_shr hd (show un a < 2 ^ 62 by omega), lN_i, un_nI (by omega)])
theorem e_sshr (a n : Int32) (hn : un n < 32) : r_right a n 1 = a >>> (n &&& 31) := by
  unfold r_right
  dsimp only
  rw [if_neg (by decide)]
  apply Int32.toInt_inj.mp
  have e1 : (a >>> (n &&& 31)).toInt = a.toInt >>> (un n) := pk_shr a _ _ (by rw [and31 n, Nat.mod_eq_of_lt hn]; exact sm32 _ hn)
  have hd : ((n.toInt64 &&& 63 : Int64).toBitVec.smod 64).toNat = un n := by
    have q : (nI (un n)).toInt64 &&& 63 = lN (un n) := wb_c _ (by omega)
    rw [← n_of n] at q
    rw [q, wb_tb, wb_sm _ (by omega), BitVec.toNat_ofNat, Nat.mod_eq_of_lt (by omega)]
  have e2 : (a.toInt64 >>> (n.toInt64 &&& 63)).toInt = a.toInt64.toInt >>> (un n) := by
    rw [← hd]
    exact BitVec.toInt_sshiftRight ..
  rw [e1, Int64.toInt_toInt32, e2, Int32.toInt_toInt64, ← e1]
  have h1 := (a >>> (n &&& 31)).toInt_lt
  have h2 := (a >>> (n &&& 31)).le_toInt
  exact Int.bmod_eq_of_le (by simpa using h2) (by simpa using h1)
theorem e_i5 (w : Int32) : (w >>> ((20 : Int32) &&& 31)) &&& 31 = r_bits w 20 24 := un_inj (by
  rw [a_31, u_20_24]
  have h1 : (w >>> ((20 : Int32) &&& 31)).toInt = w.toInt >>> 20 := pk_shr w _ 20 (by decide)
  have h2 := un_toInt (w >>> ((20 : Int32) &&& 31))
  rw [h1, Int.shiftRight_eq_div_pow, un_int] at h2
  have h3 := un_lt w
  split at h2 <;> omega)
theorem e_rem2 {f : Int32} (h : un f < 2147483648) : f - f / (2 : Int32) * (2 : Int32) = f &&& 1 := by
  have e := pk_rem (a := un f) (d := 2) h (by decide) (by decide)
  rw [← n_of f] at e
  exact e.trans (un_inj (by rw [un_nI (by omega), a_1]))
theorem e_rem4 {f : Int32} (h : un f < 2147483648) : f - f / (4 : Int32) * (4 : Int32) = f &&& 3 := by
  have e := pk_rem (a := un f) (d := 4) h (by decide) (by decide)
  rw [← n_of f] at e
  exact e.trans (un_inj (by rw [un_nI (by omega), a_3]))
theorem f_lt (w : Int32) : un (h_fOf w) < 8 := by unfold h_fOf; rw [a_7]; omega
theorem f_cases (w : Int32) : h_fOf w = 0 ∨ h_fOf w = 1 ∨ h_fOf w = 2 ∨ h_fOf w = 3 ∨ h_fOf w = 4 ∨ h_fOf w = 5 ∨ h_fOf w = 6 ∨ h_fOf w = 7 := by
  have h := f_lt w
  generalize h_fOf w = f at *
  have q : un f = 0 ∨ un f = 1 ∨ un f = 2 ∨ un f = 3 ∨ un f = 4 ∨ un f = 5 ∨ un f = 6 ∨ un f = 7 := by omega
  rcases q with q | q | q | q | q | q | q | q
  · exact Or.inl (un_inj q)
  · exact Or.inr (Or.inl (un_inj q))
  · exact Or.inr (Or.inr (Or.inl (un_inj q)))
  · exact Or.inr (Or.inr (Or.inr (Or.inl (un_inj q))))
  · exact Or.inr (Or.inr (Or.inr (Or.inr (Or.inl (un_inj q)))))
  · exact Or.inr (Or.inr (Or.inr (Or.inr (Or.inr (Or.inl (un_inj q))))))
  · exact Or.inr (Or.inr (Or.inr (Or.inr (Or.inr (Or.inr (Or.inl (un_inj q)))))))
  · exact Or.inr (Or.inr (Or.inr (Or.inr (Or.inr (Or.inr (Or.inr (un_inj q)))))))
theorem e_below (a b : Int32) : h_isBelow a b = if 0 ≤ lg_cmp (r_plain a) (r_plain b) then 0 else 1 := rfl
theorem c_0 (a y : Int32) : h_calculate 0 a y = a + y ∧ r_simple 0 a y = a + y := ⟨rfl, rfl⟩
theorem c_2 (a y : Int32) : h_calculate 2 a y = r_simple 2 a y := rfl
theorem c_3 (a y : Int32) : h_calculate 3 a y = r_simple 3 a y := by
  show (if h_isBelow a y = 0 then (0 : Int32) else 1) = (if 0 ≤ lg_cmp (r_plain a) (r_plain y) then (0 : Int32) else 1)
  rw [e_below]
  by_cases h : 0 ≤ lg_cmp (r_plain a) (r_plain y)
  · rw [if_pos h, if_pos rfl]
  · rw [if_neg h, if_neg (by decide)]
theorem c_4 (a y : Int32) : h_calculate 4 a y = r_simple 4 a y := rfl
theorem c_6 (a y : Int32) : h_calculate 6 a y = r_simple 6 a y := rfl
theorem c_7 (a y : Int32) : h_calculate 7 a y = r_simple 7 a y := rfl
theorem c_1 (a y : Int32) : h_calculate 1 a y = a <<< ((y &&& 31) &&& 31) := rfl
theorem c_5 (a y : Int32) : h_calculate 5 a y = jush a (y &&& 31) := rfl
/-! products -/
theorem hi_nat (x y : Nat) (hx : x < 4294967296) (hy : y < 4294967296) : (x / 65536) * (y / 65536) + ((x / 65536) * (y % 65536) + (x % 65536) * (y % 65536) / 65536) / 65536 + ((x % 65536) * (y / 65536) + ((x / 65536) * (y % 65536) + (x % 65536) * (y % 65536) / 65536) % 65536) / 65536 = x * y / 4294967296 := by
  have e : x * y = (x / 65536) * (y / 65536) * 4294967296 + (x / 65536) * (y % 65536) * 65536 + (x % 65536) * (y / 65536) * 65536 + (x % 65536) * (y % 65536) := by
    have h1 : x = x / 65536 * 65536 + x % 65536 := by omega
    have h2 : y = y / 65536 * 65536 + y % 65536 := by omega
    generalize x / 65536 = p at *
    generalize x % 65536 = q at *
    generalize y / 65536 = r at *
    generalize y % 65536 = t at *
    subst h1
    subst h2
    rw [Nat.add_mul, Nat.mul_add, Nat.mul_add]
    have a1 : p * 65536 * (r * 65536) = p * r * 4294967296 := by rw [Nat.mul_mul_mul_comm]
    have a2 : p * 65536 * t = p * t * 65536 := by rw [Nat.mul_right_comm]
    have a3 : q * (r * 65536) = q * r * 65536 := by rw [Nat.mul_assoc]
    omega
  rw [e]
  generalize (x / 65536) * (y / 65536) = p11
  generalize (x / 65536) * (y % 65536) = p10
  generalize (x % 65536) * (y / 65536) = p01
  generalize (x % 65536) * (y % 65536) = p00
  omega
theorem sm16 : (((16 : Int32).toInt64 &&& 63 : Int64).toBitVec.smod 64).toNat = 16 := by decide
theorem lt16 {a b : Nat} (ha : a < 65536) (hb : b < 65536) : a * b < 4294967296 := by
  have h1 : a * b ≤ 65535 * 65535 := Nat.mul_le_mul (by omega) (by omega)
  omega
theorem r_plain_u (a : Int32) : r_plain a = lN (un a) := r_plain_n a
theorem e_high (a b : Int32) : ((((r_plain a >>> ((16 : Int32).toInt64 &&& 63)) * (r_plain b >>> ((16 : Int32).toInt64 &&& 63))) + ((((r_plain a >>> ((16 : Int32).toInt64 &&& 63)) * (r_plain b &&& (65535 : Int64))) + (((r_plain a &&& (65535 : Int64)) * (r_plain b &&& (65535 : Int64))) >>> ((16 : Int32).toInt64 &&& 63))) >>> ((16 : Int32).toInt64 &&& 63))) + ((((r_plain a &&& (65535 : Int64)) * (r_plain b >>> ((16 : Int32).toInt64 &&& 63))) + ((((r_plain a >>> ((16 : Int32).toInt64 &&& 63)) * (r_plain b &&& (65535 : Int64))) + (((r_plain a &&& (65535 : Int64)) * (r_plain b &&& (65535 : Int64))) >>> ((16 : Int32).toInt64 &&& 63))) &&& (65535 : Int64))) >>> ((16 : Int32).toInt64 &&& 63))).toInt32 = nI (un a * un b / 4294967296) := by
  have ha := un_lt a
  have hb := un_lt b
  have m : ∀ n : Nat, n < 2 ^ 64 → lN n &&& (65535 : Int64) = lN (n % 65536) := fun n h => wb_mask (n := n) (k := 16) h (by decide)
  have sh : ∀ n : Nat, n < 2 ^ 62 → lN n >>> ((16 : Int32).toInt64 &&& 63) = lN (n / 65536) := fun n h => pf_shr sm16 h
  have q1 := lt16 (show un a / 65536 < 65536 by omega) (show un b / 65536 < 65536 by omega)
  have q2 := lt16 (show un a / 65536 < 65536 by omega) (show un b % 65536 < 65536 by omega)
  have q3 := lt16 (show un a % 65536 < 65536 by omega) (show un b / 65536 < 65536 by omega)
  have q4 := lt16 (show un a % 65536 < 65536 by omega) (show un b % 65536 < 65536 by omega)
  rw [r_plain_u, r_plain_u, m _ (by omega), m _ (by omega), sh _ (by omega), sh _ (by omega), lN_mul, lN_mul, lN_mul, lN_mul, sh _ (by omega), lN_add, m _ (by omega), lN_add, sh _ (by omega), sh _ (by omega), lN_add, lN_add, lN_i, hi_nat _ _ ha hb]
