/-! what an entry permits -/
theorem has_un (e : Int32) (b : Int32) (k : Nat) (hb : ((b &&& 31).toBitVec.smod 32).toNat = k) (hk : k < 32) : r_has e b = nI (un e / 2 ^ k % 2) := by
  have h1 : (e >>> (b &&& 31)).toInt = e.toInt >>> k := pk_shr e _ k hb
  have h2 := un_toInt (e >>> (b &&& 31))
  rw [h1, Int.shiftRight_eq_div_pow] at h2
  have h3 := un_lt e
  have hp : 2 ^ k * 2 ^ (32 - k) = 4294967296 := by rw [← Nat.pow_add, show k + (32 - k) = 32 by omega]
  have hp2 : 2 ≤ 2 ^ (32 - k) := by
    have := Nat.pow_le_pow_right (show 0 < 2 by decide) (show 1 ≤ 32 - k by omega)
    simpa using this
  have hev : 2 ^ (32 - k) % 2 = 0 := by
    rw [show 32 - k = (31 - k) + 1 by omega, Nat.pow_succ]
    exact Nat.mul_mod_left _ _
  have key : un (e >>> (b &&& 31)) % 2 = un e / 2 ^ k % 2 := by
    rw [un_int e] at h2
    by_cases hc : un e < 2147483648
    · rw [if_pos hc] at h2
      have h4 : ((un e : Int) / ((2 ^ k : Nat) : Int)) = ((un e / 2 ^ k : Nat) : Int) := rfl
      rw [h4] at h2
      omega
    · rw [if_neg hc] at h2
      have hp0 : (0 : Int) < ((2 ^ k : Nat) : Int) := by have := Nat.pow_pos (n := k) (show 0 < 2 by decide); omega
      have h5 : ((un e : Int) - 4294967296) = (un e : Int) + -((2 ^ (32 - k) : Nat) : Int) * ((2 ^ k : Nat) : Int) := by
        have h6 : (((2 ^ k * 2 ^ (32 - k) : Nat)) : Int) = 4294967296 := by rw [hp]; rfl
        rw [Int.natCast_mul] at h6
        rw [Int.neg_mul, Int.mul_comm ((2 ^ (32 - k) : Nat) : Int), h6]
        omega
      rw [h5, Int.add_mul_ediv_right _ _ (by omega)] at h2
      have h4 : ((un e : Int) / ((2 ^ k : Nat) : Int)) = ((un e / 2 ^ k : Nat) : Int) := rfl
      rw [h4] at h2
      generalize un e / 2 ^ k = q at *
      generalize 2 ^ (32 - k) = r at *
      omega
  unfold r_has
  have h7 : (e >>> (b &&& 31)) &&& 1 = nI (un e / 2 ^ k % 2) := un_inj (by rw [a_1, key, un_nI (by omega)])
  rw [h7]
  have h8 : un e / 2 ^ k % 2 = 0 ∨ un e / 2 ^ k % 2 = 1 := by omega
  rcases h8 with h8 | h8 <;> rw [h8] <;> rfl
theorem hs_0 (e : Int32) : r_has e 0 = nI (un e % 2) := by rw [has_un e 0 0 (by decide) (by decide)]; congr 1; omega
theorem hs_1 (e : Int32) : r_has e 1 = nI (un e / 2 % 2) := has_un e 1 1 (by decide) (by decide)
theorem hs_2 (e : Int32) : r_has e 2 = nI (un e / 4 % 2) := has_un e 2 2 (by decide) (by decide)
theorem hs_3 (e : Int32) : r_has e 3 = nI (un e / 8 % 2) := has_un e 3 3 (by decide) (by decide)
theorem hs_4 (e : Int32) : r_has e 4 = nI (un e / 16 % 2) := has_un e 4 4 (by decide) (by decide)
theorem hs_6 (e : Int32) : r_has e 6 = nI (un e / 64 % 2) := has_un e 6 6 (by decide) (by decide)
theorem hs_7 (e : Int32) : r_has e 7 = nI (un e / 128 % 2) := has_un e 7 7 (by decide) (by decide)
theorem hs_15 (e : Int32) : r_has e 15 = nI (un e / 32768 % 2) := has_un e 15 15 (by decide) (by decide)
theorem hs_31 (e : Int32) : r_has e 31 = nI (un e / 2147483648 % 2) := has_un e 31 31 (by decide) (by decide)
theorem hx_0 (e : Int32) : r_has e 0 = r_has (e &&& 255) 0 := by rw [hs_0, hs_0, a_255]; congr 1; omega
theorem hx_1 (e : Int32) : r_has e 1 = r_has (e &&& 255) 1 := by rw [hs_1, hs_1, a_255]; congr 1; omega
theorem hx_2 (e : Int32) : r_has e 2 = r_has (e &&& 255) 2 := by rw [hs_2, hs_2, a_255]; congr 1; omega
theorem hx_3 (e : Int32) : r_has e 3 = r_has (e &&& 255) 3 := by rw [hs_3, hs_3, a_255]; congr 1; omega
theorem hx_4 (e : Int32) : r_has e 4 = r_has (e &&& 255) 4 := by rw [hs_4, hs_4, a_255]; congr 1; omega
theorem hx_6 (e : Int32) : r_has e 6 = r_has (e &&& 255) 6 := by rw [hs_6, hs_6, a_255]; congr 1; omega
theorem hx_7 (e : Int32) : r_has e 7 = r_has (e &&& 255) 7 := by rw [hs_7, hs_7, a_255]; congr 1; omega
theorem ax_6 (e : Int32) : e &&& 6 = (e &&& 255) &&& 6 := by rw [Int32.and_assoc]; rfl
theorem ax_73 (e : Int32) : e &&& (65 ||| 8) = (e &&& 255) &&& (65 ||| 8) := by rw [Int32.and_assoc]; rfl
theorem ax_67 (e : Int32) : e &&& (65 ||| 2) = (e &&& 255) &&& (65 ||| 2) := by rw [Int32.and_assoc]; rfl
theorem ax_197 (e : Int32) : e &&& (65 ||| 132) = (e &&& 255) &&& (65 ||| 132) := by rw [Int32.and_assoc]; rfl
theorem ax_16 (e : Int32) : e &&& 16 = (e &&& 255) &&& 16 := by rw [Int32.and_assoc]; rfl
theorem x_lt (e : Int32) : un (e &&& 255) < 256 := by rw [a_255]; omega
theorem lets_first (v : RS) (e how : Int32) : r_lets v e how 1 = if r_bits e 10 19 = 0 then r_lets v e how 0 else 0 := by
  unfold r_lets
  rcases Classical.propComplete (r_bits e 10 19 = 0) with c | c <;> simp +decide only [c, if_true, if_false, ite_self]
/-- what both make of the eight bits, once mode and SUM are known -/
def p_e (x how : Int32) (u s : Bool) : Int32 := h_permits (fun _ => 0, fun _ => 0, fun _ => if s then 0 else 262144, 0, if u then 0 else 1, 0) x how
def q_e (x how : Int32) (u s : Bool) : Int32 := r_lets (0, fun _ => 0, fun _ => 0, 0, if u then 0 else 1, if s then 0 else 262144, 0, 0, 0, 0, 0, 0, 0, 0, 0, 0, 0, 0) x how 0
theorem pq : ∀ n, n < 256 → (p_e (nI n) 0 true true = q_e (nI n) 0 true true ∧ p_e (nI n) 0 true false = q_e (nI n) 0 true false ∧ p_e (nI n) 0 false true = q_e (nI n) 0 false true ∧ p_e (nI n) 0 false false = q_e (nI n) 0 false false) ∧ (p_e (nI n) 1 true true = q_e (nI n) 1 true true ∧ p_e (nI n) 1 true false = q_e (nI n) 1 true false ∧ p_e (nI n) 1 false true = q_e (nI n) 1 false true ∧ p_e (nI n) 1 false false = q_e (nI n) 1 false false) ∧ (p_e (nI n) 2 true true = q_e (nI n) 2 true true ∧ p_e (nI n) 2 true false = q_e (nI n) 2 true false ∧ p_e (nI n) 2 false true = q_e (nI n) 2 false true ∧ p_e (nI n) 2 false false = q_e (nI n) 2 false false) := by decide +kernel
theorem pqx (x how : Int32) (u s : Bool) (hx : un x < 256) (hh : how = 0 ∨ how = 1 ∨ how = 2) : p_e x how u s = q_e x how u s := by
  have h := pq (un x) hx
  rw [← n_of x] at h
  obtain ⟨⟨a1, a2, a3, a4⟩, ⟨b1, b2, b3, b4⟩, c1, c2, c3, c4⟩ := h
  rcases hh with rfl | rfl | rfl
  · cases u
    · cases s
      · exact a4
      · exact a3
    · cases s
      · exact a2
      · exact a1
  · cases u
    · cases s
      · exact b4
      · exact b3
    · cases s
      · exact b2
      · exact b1
  · cases u
    · cases s
      · exact c4
      · exact c3
    · cases s
      · exact c2
      · exact c1
theorem p_of (st : HS) (e how : Int32) (u s : Bool) (hu : (st.2.2.2.2.1 = 0) = (u = true)) (hs : (st.2.2.1 (0 : Int32).toNatClampNeg &&& 262144 = 0) = (s = true)) : h_permits st e how = p_e (e &&& 255) how u s := by
  unfold p_e h_permits
  dsimp only
  rw [ax_6, ax_73, ax_67, ax_197, ax_16]
  simp only [hu, hs]
  cases u <;> cases s <;> simp +decide only [if_true, if_false]
theorem q_of (v : RS) (e how : Int32) (u s : Bool) (hu : (vMD v = 0) = (u = true)) (hs : (vSTA v &&& 262144 = 0) = (s = true)) : r_lets v e how 0 = q_e (e &&& 255) how u s := by
  unfold q_e r_lets
  dsimp only
  rw [hx_0 e, hx_1 e, hx_2 e, hx_3 e, hx_4 e, hx_6 e, hx_7 e]
  simp only [hu, hs]
  cases u <;> cases s <;> simp +decide only [if_true, if_false]
theorem L_perm (v : RS) (e how : Int32) (hh : how = 0 ∨ how = 1 ∨ how = 2) : h_permits (phi v) e how = r_lets v e how 0 := by
  rw [p_of (phi v) e how (decide (vMD v = 0)) (decide (vSTA v &&& 262144 = 0)) (by rw [decide_eq_true_eq]; rfl) (by rw [decide_eq_true_eq]; rfl), q_of v e how (decide (vMD v = 0)) (decide (vSTA v &&& 262144 = 0)) (by rw [decide_eq_true_eq]) (by rw [decide_eq_true_eq])]
  exact pqx _ _ _ _ (x_lt e) hh
/-! where an address lies -/
theorem ad_1 (t a : Int32) : (t <<< ((12 : Int32) &&& 31)) + ((jush a 22) <<< ((2 : Int32) &&& 31)) = (r_bits t 0 21 * 4096) + (4 * r_bits a 22 31) := un_inj (by
  rw [un_add, s_12, s_2, j_22, un_add, un_mul, un_mul, u_0_21, u_22_31, show un (4096 : Int32) = 4096 from rfl, show un (4 : Int32) = 4 from rfl]
  have := un_lt t
  have := un_lt a
  omega)
theorem un_fr (e : Int32) : un (h_frameOf e) = un e / 1024 * 4096 % 4294967296 := by unfold h_frameOf; rw [s_12, j_10]
theorem ad_2 (e a : Int32) : h_frameOf e + (((jush a 12) &&& 1023) <<< ((2 : Int32) &&& 31)) = (r_bits e 10 31 * 4096) + (4 * r_bits a 12 21) := un_inj (by
  rw [un_add, un_fr, s_2, a_1023, j_12, un_add, un_mul, un_mul, u_10_31, u_12_21, show un (4096 : Int32) = 4096 from rfl, show un (4 : Int32) = 4 from rfl]
  have := un_lt e
  have := un_lt a
  omega)
theorem ad_3 (e a : Int32) : h_frameOf e + (a &&& 4095) = ((r_bits e 10 31 * 4096) + r_bits a 0 11) + 0 := un_inj (by
  rw [un_add, un_fr, a_4095, un_add, un_add, un_mul, u_10_31, u_0_11, show un (4096 : Int32) = 4096 from rfl, show un (0 : Int32) = 0 from rfl]
  have := un_lt e
  have := un_lt a
  omega)
theorem ad_4 (e a : Int32) : h_frameOf e + (a &&& 4194303) = ((r_bits e 10 31 * 4096) + r_bits a 0 11) + (4096 * r_bits a 12 21) := un_inj (by
  rw [un_add, un_fr, a_22, un_add, un_add, un_mul, un_mul, u_10_31, u_0_11, u_12_21, show un (4096 : Int32) = 4096 from rfl]
  have := un_lt e
  have := un_lt a
  omega)
theorem fr_s (e : Int32) : h_frameOf e &&& 4095 = 0 := un_inj (by
  rw [a_4095, un_fr]
  show _ = 0
  have := un_lt e
  omega)
theorem fr_l (e : Int32) : (h_frameOf e &&& 4194303 = 0) = (r_bits e 10 19 = 0) := by
  apply propext
  rw [z_un, z_un, a_22, un_fr, u_10_19]
  have := un_lt e
  omega
theorem kd (e : Int32) : (e &&& 15 = 1) = (¬ r_has e 0 = 0 ∧ r_bits e 1 3 = 0) := by
  apply propext
  rw [z_un (r_bits e 1 3), z_un (r_has e 0), hs_0, un_nI (by omega), u_1_3]
  have h : (e &&& 15 = 1) ↔ un (e &&& 15) = 1 := ⟨fun q => by rw [q]; rfl, fun q => un_inj q⟩
  rw [h, a_15]
  omega
theorem tb31 (t : Int32) : (r_has t 31 = 0) = (0 ≤ t) := by
  apply propext
  rw [z_un, hs_31, un_nI (by omega), nn_un]
  have := un_lt t
  omega
