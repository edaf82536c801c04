/-! branches, and what is calculated -/
theorem pc_phi (v u : RS) (t : Int32) (hu : phi u = phi v) : ((1 : Int32), ((phi v).1, (phi v).2.1, (phi v).2.2.1, t, (phi v).2.2.2.2.1, (phi v).2.2.2.2.2)) = ((1 : Int32), phi (setPC u t)) := by
  rw [← hu]
  rfl
theorem inv_nx {v : RS} (h : Inv v) (t : Int32) : Inv (setNX v t) := h
theorem L_jump0 (v : RS) (t D : Int32) (hD : D = 0) (hi : Inv v) (h : rdy v) : (if t &&& 3 = 0 then ((1 : Int32), ((phi v).1, (phi v).2.1, (phi v).2.2.1, t, (phi v).2.2.2.2.1, (phi v).2.2.2.2.2)) else h_trap (phi v) 0 t) = fin (r_jump v t D) ∧ Inv (r_jump v t D) := by
  rw [r_jump_eq, e_al]
  by_cases hc : t &&& 3 = 0
  · rw [if_pos hc, if_pos hc]
    obtain ⟨h1, h2⟩ := L_set v D (vPC v + 4) (by rw [hD]; decide) hi
    rw [if_pos hD] at h1
    refine ⟨?_, inv_nx h2 t⟩
    rw [fin_nx (rdy_set h _ _).1]
    exact pc_phi v _ t h1
  · rw [if_neg hc, if_neg hc]
    exact L_trap v 0 t hi
theorem br_eq (v : RS) (w f a b : Int32) (hf : un f < 2147483648) (h2 : ¬ f = 2) (h3 : ¬ f = 3) : r_branch v w f a b = if h_isTaken f a b = 0 then v else r_jump v (vPC v + r_near w) 0 := by
  unfold r_branch h_isTaken
  rw [e_below]
  dsimp only
  rw [if_neg h2, if_neg h3]
  simp only [e_rem2 hf]
  rcases Classical.propComplete (a = b) with c1 | c1 <;> rcases Classical.propComplete (b ≤ a) with c2 | c2 <;> rcases Classical.propComplete (0 ≤ lg_cmp (r_plain a) (r_plain b)) with c3 | c3 <;> rcases Classical.propComplete (f &&& 1 = 0) with c4 | c4 <;> rcases Classical.propComplete (2 ≤ f) with c5 | c5 <;> rcases Classical.propComplete (6 ≤ f) with c6 | c6 <;> simp +decide only [c1, c2, c3, c4, c5, c6, if_true, if_false]
theorem L_branch (v : RS) (w : Int32) (hi : Inv v) (h : rdy v) : h_branch (phi v) w = fin (r_branch v w (h_fOf w) (h_aOf (phi v) w) (h_bOf (phi v) w)) ∧ Inv (r_branch v w (h_fOf w) (h_aOf (phi v) w) (h_bOf (phi v) w)) := by
  have hf := f_lt w
  unfold h_branch
  dsimp only
  by_cases q2 : h_fOf w = 2
  · rw [if_pos q2]
    have e : r_branch v w (h_fOf w) (h_aOf (phi v) w) (h_bOf (phi v) w) = r_trap v 2 w := by unfold r_branch; rw [if_pos q2]
    rw [e]
    exact L_refuse v w hi
  · rw [if_neg q2]
    by_cases q3 : h_fOf w = 3
    · rw [if_pos q3]
      have e : r_branch v w (h_fOf w) (h_aOf (phi v) w) (h_bOf (phi v) w) = r_trap v 2 w := by unfold r_branch; rw [if_neg q2, if_pos q3]
      rw [e]
      exact L_refuse v w hi
    · rw [if_neg q3, br_eq v w _ _ _ (by omega) q2 q3]
      by_cases t : h_isTaken (h_fOf w) (h_aOf (phi v) w) (h_bOf (phi v) w) = 0
      · rw [if_pos t, if_pos t]
        exact ⟨L_goOn v h, hi⟩
      · rw [if_neg t, if_neg t, e_C]
        exact L_jump0 v _ 0 rfl hi h
theorem n_lt (w : Int32) : un (r_bits w 20 24) < 32 := by rw [u_20_24]; omega
theorem e_i5' (w : Int32) : h_iOf w &&& 31 = r_bits w 20 24 := e_i5 w
theorem L_num (v : RS) (w : Int32) (hi : Inv v) (h : rdy v) : h_calculateWithNumber (phi v) w = fin (r_withNumber v w (h_fOf w) (r_bits w 7 11) (h_aOf (phi v) w) (h_iOf w)) ∧ Inv (r_withNumber v w (h_fOf w) (r_bits w 7 11) (h_aOf (phi v) w) (h_iOf w)) := by
  unfold h_calculateWithNumber r_withNumber
  dsimp only
  rw [e_g]
  generalize h_aOf (phi v) w = a
  rcases f_cases w with q | q | q | q | q | q | q | q
  · simp +decide only [q, if_true, if_false]
    exact L_goOnWith v w _ hi h
  · by_cases g : h_gOf w = 0
    · simp +decide only [q, g, if_true, if_false]
      have e : a * r_power (r_bits w 20 24) = h_calculate 1 a (h_iOf w) := by rw [e_pow, c_1, e_i5']
      rw [e]
      exact L_goOnWith v w _ hi h
    · simp +decide only [q, g, if_true, if_false]
      exact L_refuse v w hi
  · simp +decide only [q, if_true, if_false]
    rw [← c_2]
    exact L_goOnWith v w _ hi h
  · simp +decide only [q, if_true, if_false]
    rw [← c_3]
    exact L_goOnWith v w _ hi h
  · simp +decide only [q, if_true, if_false]
    rw [← c_4]
    exact L_goOnWith v w _ hi h
  · by_cases g : h_gOf w = 0
    · simp +decide only [q, g, if_true, if_false]
      have e : r_right a (r_bits w 20 24) 0 = h_calculate 5 a (h_iOf w) := by rw [e_ushr _ _ (n_lt w), c_5, e_i5']
      rw [e]
      exact L_goOnWith v w _ hi h
    · by_cases g2 : h_gOf w = 32
      · simp +decide only [q, g2, if_true, if_false]
        have e : r_right a (r_bits w 20 24) 1 = a >>> (((jush w (20 : Int32)) &&& (31 : Int32)) &&& 31) := by rw [e_sshr _ _ (n_lt w), e_B]
        rw [e]
        exact L_goOnWith v w _ hi h
      · simp +decide only [q, g, g2, if_true, if_false]
        exact L_refuse v w hi
  · simp +decide only [q, if_true, if_false]
    rw [← c_6]
    exact L_goOnWith v w _ hi h
  · simp +decide only [q, if_true, if_false]
    rw [← c_7]
    exact L_goOnWith v w _ hi h
theorem b5_lt (b : Int32) : un (r_bits b 0 4) < 32 := by rw [u_0_4]; omega
theorem L_two (v : RS) (w : Int32) (hi : Inv v) (h : rdy v) : h_calculateWithRegister (phi v) w = fin (r_withTwo v w (h_fOf w) (r_bits w 7 11) (h_aOf (phi v) w) (h_bOf (phi v) w)) ∧ Inv (r_withTwo v w (h_fOf w) (r_bits w 7 11) (h_aOf (phi v) w) (h_bOf (phi v) w)) := by
  unfold h_calculateWithRegister r_withTwo
  dsimp only
  rw [e_g]
  generalize h_aOf (phi v) w = a
  generalize h_bOf (phi v) w = b
  by_cases g0 : h_gOf w = 0
  · rcases f_cases w with q | q | q | q | q | q | q | q <;> simp +decide only [q, g0, if_true, if_false]
    · exact L_goOnWith v w _ hi h
    · have e : a * r_power (r_bits b 0 4) = h_calculate 1 a b := by rw [e_pow, c_1, e_31]
      rw [e]
      exact L_goOnWith v w _ hi h
    · rw [← c_2]
      exact L_goOnWith v w _ hi h
    · rw [← c_3]
      exact L_goOnWith v w _ hi h
    · rw [← c_4]
      exact L_goOnWith v w _ hi h
    · have e : r_right a (r_bits b 0 4) 0 = h_calculate 5 a b := by rw [e_ushr _ _ (b5_lt b), c_5, e_31]
      rw [e]
      exact L_goOnWith v w _ hi h
    · rw [← c_6]
      exact L_goOnWith v w _ hi h
    · rw [← c_7]
      exact L_goOnWith v w _ hi h
  · by_cases g1 : h_gOf w = 1
    · rcases f_cases w with q | q | q | q | q | q | q | q <;> simp +decide only [q, g1, if_true, if_false]
      · exact L_goOnWith v w _ hi h
      · rw [mu_1]
        exact L_goOnWith v w _ hi h
      · rw [mu_2]
        exact L_goOnWith v w _ hi h
      · rw [mu_3]
        exact L_goOnWith v w _ hi h
      · rw [dv 4 a b (Or.inl rfl)]
        exact L_goOnWith v w _ hi h
      · rw [dv 5 a b (Or.inr (Or.inl rfl))]
        exact L_goOnWith v w _ hi h
      · rw [dv 6 a b (Or.inr (Or.inr (Or.inl rfl)))]
        exact L_goOnWith v w _ hi h
      · rw [dv 7 a b (Or.inr (Or.inr (Or.inr rfl)))]
        exact L_goOnWith v w _ hi h
    · by_cases g2 : h_gOf w = 32
      · have e : r_right a (r_bits b 0 4) 1 = a >>> ((b &&& (31 : Int32)) &&& 31) := by rw [e_sshr _ _ (b5_lt b), e_31]
        rcases f_cases w with q | q | q | q | q | q | q | q <;> simp +decide only [q, g2, if_true, if_false]
        · exact L_goOnWith v w _ hi h
        · exact L_refuse v w hi
        · exact L_refuse v w hi
        · exact L_refuse v w hi
        · exact L_refuse v w hi
        · rw [e]
          exact L_goOnWith v w _ hi h
        · exact L_refuse v w hi
        · exact L_refuse v w hi
      · simp +decide only [g0, g1, g2, if_true, if_false]
        exact L_refuse v w hi
