/-! products and quotients -/
theorem m_hi (A B : Int64) : (un ((A * B) >>> ((32 : Int32).toInt64 &&& 63)).toInt32 : Int) = (A.toInt * B.toInt / 4294967296) % 4294967296 := by
  have e2 : ((A * B) >>> ((32 : Int32).toInt64 &&& 63)).toInt = (A * B).toInt >>> 32 := by
    have hd : (((32 : Int32).toInt64 &&& 63 : Int64).toBitVec.smod 64).toNat = 32 := by decide
    have e : ((A * B) >>> ((32 : Int32).toInt64 &&& 63)).toInt = (A * B).toInt >>> (((32 : Int32).toInt64 &&& 63 : Int64).toBitVec.smod 64).toNat := BitVec.toInt_sshiftRight ..
    rw [e, hd]
  have e3 : (A * B).toInt = (A.toInt * B.toInt).bmod (2 ^ 64) := Int64.toInt_mul A B
  have e4 := Int.bmod_add_bdiv (A.toInt * B.toInt) (2 ^ 64)
  rw [un_toInt, Int64.toInt_toInt32, e2, Int.shiftRight_eq_div_pow]
  generalize A.toInt * B.toInt = P at *
  rw [e3]
  generalize P.bmod (2 ^ 64) = Q at *
  generalize P.bdiv (2 ^ 64) = K at *
  have e5 : Int.bmod (Q / ((2 ^ 32 : Nat) : Int)) (2 ^ 32) % 4294967296 = (Q / ((2 ^ 32 : Nat) : Int)) % 4294967296 := by
    have e6 := Int.bmod_add_bdiv (Q / ((2 ^ 32 : Nat) : Int)) (2 ^ 32)
    omega
  rw [e5]
  omega
theorem pl_int (b : Int32) : (r_plain b).toInt = (un b : Int) := by
  rw [r_plain_n]
  exact pk_lT (by have := un_lt b; show un b < 2 ^ 63; omega)
theorem mu_3 (a b : Int32) : h_multiply 3 a b = r_product 3 a b := by
  have e1 : r_product 3 a b = nI (un a * un b / 4294967296) := e_high a b
  have e2 : h_multiply 3 a b = (jlush (r_plain a * r_plain b) 32).toInt32 := rfl
  have h : un a * un b < 2 ^ 64 := by
    have h1 : un a * un b ≤ 4294967295 * 4294967295 := Nat.mul_le_mul (by have := un_lt a; omega) (by have := un_lt b; omega)
    omega
  have e3 : jlush (lN (un a * un b)) 32 = lN (un a * un b / 2 ^ 32) := wb_shr (k := 32) h (by decide)
  rw [e1, e2, r_plain_u, r_plain_u, lN_mul, e3, lN_i]
theorem hi_lt (a b : Int32) : un a * un b / 4294967296 < 4294967296 := by
  have h1 : un a * un b ≤ 4294967295 * 4294967295 := Nat.mul_le_mul (by have := un_lt a; omega) (by have := un_lt b; omega)
  omega
theorem mu_2 (a b : Int32) : h_multiply 2 a b = r_product 2 a b := by
  have e1 : r_product 2 a b = if 0 ≤ a then nI (un a * un b / 4294967296) else nI (un a * un b / 4294967296) - b := by rw [← e_high a b]; rfl
  have e2 : h_multiply 2 a b = ((a.toInt64 * r_plain b) >>> ((32 : Int32).toInt64 &&& 63)).toInt32 := rfl
  have e3 := m_hi a.toInt64 (r_plain b)
  rw [Int32.toInt_toInt64, pl_int] at e3
  have hl := hi_lt a b
  have ha := un_lt a
  have hb := un_lt b
  apply un_inj
  rw [e1, e2]
  have h1 := un_int a
  by_cases h : 0 ≤ a
  · have h2 := (nn_un a).mp h
    rw [if_pos h, un_nI hl]
    rw [if_pos h2] at h1
    rw [h1] at e3
    have e4 : (un a : Int) * (un b : Int) = ((un a * un b : Nat) : Int) := by push_cast; rfl
    rw [e4] at e3
    omega
  · have h2 : ¬ un a < 2147483648 := fun q => h ((nn_un a).mpr q)
    rw [if_neg h, un_sub, un_nI hl]
    rw [if_neg h2] at h1
    rw [h1, Int.sub_mul] at e3
    have e4 : (un a : Int) * (un b : Int) = ((un a * un b : Nat) : Int) := by push_cast; rfl
    rw [e4] at e3
    omega
theorem mu_1 (a b : Int32) : h_multiply 1 a b = r_product 1 a b := by
  have e1 : r_product 1 a b = if 0 ≤ a then (if 0 ≤ b then nI (un a * un b / 4294967296) else nI (un a * un b / 4294967296) - a) else (if 0 ≤ b then nI (un a * un b / 4294967296) - b else (nI (un a * un b / 4294967296) - b) - a) := by
    unfold r_product
    dsimp only
    rw [e_high a b]
    simp +decide only [if_true, if_false]
  have e2 : h_multiply 1 a b = ((a.toInt64 * b.toInt64) >>> ((32 : Int32).toInt64 &&& 63)).toInt32 := rfl
  have e3 := m_hi a.toInt64 b.toInt64
  rw [Int32.toInt_toInt64, Int32.toInt_toInt64] at e3
  have hl := hi_lt a b
  have ha := un_lt a
  have hb := un_lt b
  apply un_inj
  rw [e1, e2]
  have h1 := un_int a
  have h1b := un_int b
  have e4 : (un a : Int) * (un b : Int) = ((un a * un b : Nat) : Int) := by push_cast; rfl
  by_cases h : 0 ≤ a <;> by_cases hq : 0 ≤ b
  · have h2 := (nn_un a).mp h
    have h3 := (nn_un b).mp hq
    rw [if_pos h, if_pos hq, un_nI hl]
    rw [if_pos h2] at h1
    rw [if_pos h3] at h1b
    rw [h1, h1b, e4] at e3
    omega
  · have h2 := (nn_un a).mp h
    have h3 : ¬ un b < 2147483648 := fun q => hq ((nn_un b).mpr q)
    rw [if_pos h, if_neg hq, un_sub, un_nI hl]
    rw [if_pos h2] at h1
    rw [if_neg h3] at h1b
    rw [h1, h1b, Int.mul_sub, e4] at e3
    omega
  · have h2 : ¬ un a < 2147483648 := fun q => h ((nn_un a).mpr q)
    have h3 := (nn_un b).mp hq
    rw [if_neg h, if_pos hq, un_sub, un_nI hl]
    rw [if_neg h2] at h1
    rw [if_pos h3] at h1b
    rw [h1, h1b, Int.sub_mul, e4] at e3
    omega
  · have h2 : ¬ un a < 2147483648 := fun q => h ((nn_un a).mpr q)
    have h3 : ¬ un b < 2147483648 := fun q => hq ((nn_un b).mpr q)
    rw [if_neg h, if_neg hq, un_sub, un_sub, un_nI hl]
    rw [if_neg h2] at h1
    rw [if_neg h3] at h1b
    rw [h1, h1b, Int.sub_mul, Int.mul_sub, Int.mul_sub, e4] at e3
    omega
theorem lg0 (y : Int64) : lg_cmp y (0 : Int64) = 0 ↔ y = 0 := by
  constructor
  · intro h
    unfold lg_cmp at h
    by_cases h1 : y > 0
    · rw [if_pos h1] at h; exact absurd h (by decide)
    · rw [if_neg h1] at h
      by_cases h2 : y = 0
      · exact h2
      · rw [if_neg h2] at h; exact absurd h (by decide)
  · intro h; rw [h]; decide
theorem dv (f a b : Int32) (hf : f = 4 ∨ f = 5 ∨ f = 6 ∨ f = 7) : h_divide f a b = r_quotient f a b := by
  have hs : lg_cmp b.toInt64 (0 : Int64) = 0 ↔ b = 0 := (lg0 _).trans ⟨fun q => Classical.byContradiction fun h => h_dv1 h q, fun q => by rw [q]; rfl⟩
  have hu : lg_cmp (r_plain b) (0 : Int64) = 0 ↔ b = 0 := (lg0 _).trans ⟨fun q => Classical.byContradiction fun h => h_dv2 h q, fun q => by rw [q]; rfl⟩
  have ea : a.toInt64 &&& (4294967295 : Int64) = r_plain a := rfl
  have eb : b.toInt64 &&& (4294967295 : Int64) = r_plain b := rfl
  by_cases hb : b = 0
  · have h0 := eq_true hb
    have h1 := eq_true (hs.mpr hb)
    have h2 := eq_true (hu.mpr hb)
    rcases hf with rfl | rfl | rfl | rfl <;> (unfold h_divide r_quotient; simp +decide only [h0, h1, h2, if_true, if_false])
  · have h0 := eq_false hb
    have h1 := eq_false (fun q => hb (hs.mp q))
    have h2 := eq_false (fun q => hb (hu.mp q))
    rcases hf with rfl | rfl | rfl | rfl <;> (unfold h_divide r_quotient; simp +decide only [h0, h1, h2, if_true, if_false, ea, eb])
