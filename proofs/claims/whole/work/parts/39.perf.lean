/-! instructions, steps, runs -/
def setTR (v : RS) (x : Int32) : RS := (v.1, v.2.1, v.2.2.1, v.2.2.2.1, v.2.2.2.2.1, v.2.2.2.2.2.1, v.2.2.2.2.2.2.1, v.2.2.2.2.2.2.2.1, v.2.2.2.2.2.2.2.2.1, v.2.2.2.2.2.2.2.2.2.1, v.2.2.2.2.2.2.2.2.2.2.1, v.2.2.2.2.2.2.2.2.2.2.2.1, v.2.2.2.2.2.2.2.2.2.2.2.2.1, v.2.2.2.2.2.2.2.2.2.2.2.2.2.1, v.2.2.2.2.2.2.2.2.2.2.2.2.2.2.1, x, v.2.2.2.2.2.2.2.2.2.2.2.2.2.2.2.2.1, v.2.2.2.2.2.2.2.2.2.2.2.2.2.2.2.2.2)
def setTUR (v : RS) (x : Int32) : RS := (v.1, v.2.1, v.2.2.1, v.2.2.2.1, v.2.2.2.2.1, v.2.2.2.2.2.1, v.2.2.2.2.2.2.1, v.2.2.2.2.2.2.2.1, v.2.2.2.2.2.2.2.2.1, v.2.2.2.2.2.2.2.2.2.1, v.2.2.2.2.2.2.2.2.2.2.1, v.2.2.2.2.2.2.2.2.2.2.2.1, x, v.2.2.2.2.2.2.2.2.2.2.2.2.2.1, v.2.2.2.2.2.2.2.2.2.2.2.2.2.2.1, v.2.2.2.2.2.2.2.2.2.2.2.2.2.2.2.1, v.2.2.2.2.2.2.2.2.2.2.2.2.2.2.2.2.1, v.2.2.2.2.2.2.2.2.2.2.2.2.2.2.2.2.2)
def setWRK (v : RS) (x : Int32) : RS := (v.1, v.2.1, v.2.2.1, v.2.2.2.1, v.2.2.2.2.1, v.2.2.2.2.2.1, v.2.2.2.2.2.2.1, v.2.2.2.2.2.2.2.1, v.2.2.2.2.2.2.2.2.1, v.2.2.2.2.2.2.2.2.2.1, v.2.2.2.2.2.2.2.2.2.2.1, v.2.2.2.2.2.2.2.2.2.2.2.1, v.2.2.2.2.2.2.2.2.2.2.2.2.1, x, v.2.2.2.2.2.2.2.2.2.2.2.2.2.2.1, v.2.2.2.2.2.2.2.2.2.2.2.2.2.2.2.1, v.2.2.2.2.2.2.2.2.2.2.2.2.2.2.2.2.1, v.2.2.2.2.2.2.2.2.2.2.2.2.2.2.2.2.2)
def setTH (v : RS) (x : Int32) : RS := (x, v.2.1, v.2.2.1, v.2.2.2.1, v.2.2.2.2.1, v.2.2.2.2.2.1, v.2.2.2.2.2.2.1, v.2.2.2.2.2.2.2.1, v.2.2.2.2.2.2.2.2.1, v.2.2.2.2.2.2.2.2.2.1, v.2.2.2.2.2.2.2.2.2.2.1, v.2.2.2.2.2.2.2.2.2.2.2.1, v.2.2.2.2.2.2.2.2.2.2.2.2.1, v.2.2.2.2.2.2.2.2.2.2.2.2.2.1, v.2.2.2.2.2.2.2.2.2.2.2.2.2.2.1, v.2.2.2.2.2.2.2.2.2.2.2.2.2.2.2.1, v.2.2.2.2.2.2.2.2.2.2.2.2.2.2.2.2.1, v.2.2.2.2.2.2.2.2.2.2.2.2.2.2.2.2.2)

theorem pcu (p w : Int32) : (p + w) - r_bits w 0 11 = p + h_uOf w := by
  rw [← e_U]
  apply un_inj
  rw [un_sub, un_add, un_add, un_sub]
  have := un_lt p
  have := un_lt w
  have := un_lt (r_bits w 0 11)
  omega
theorem L_perform (v : RS) (w : Int32) (hi : Inv v) (h : rdy v) : h_perform (phi v) w = fin (r_perform v w) ∧ Inv (r_perform v w) := by
  have ea : v.2.2.1 (r_bits w 15 19).toNatClampNeg = h_aOf (phi v) w := by unfold h_aOf; rw [e_A]; rfl
  have eb : v.2.2.1 (r_bits w 20 24).toNatClampNeg = h_bOf (phi v) w := by unfold h_bOf; rw [e_B]; rfl
  have ei : w >>> ((20 : Int32) &&& 31) = h_iOf w := rfl
  unfold h_perform r_perform
  dsimp only
  rw [e_op, e_f, ea, eb, ei]
  by_cases c3 : w &&& 127 = 3
  · rw [if_pos c3, if_pos c3]
    exact L_load v w hi h
  rw [if_neg c3, if_neg c3]
  by_cases c15 : w &&& 127 = 15
  · rw [if_pos c15, if_pos c15]
    by_cases f : h_fOf w = 0
    · rw [if_pos f, if_pos f]
      exact ⟨L_goOn v h, hi⟩
    · rw [if_neg f, if_neg f]
      exact L_refuse v w hi
  rw [if_neg c15, if_neg c15]
  by_cases c19 : w &&& 127 = 19
  · rw [if_pos c19, if_pos c19]
    exact L_num v w hi h
  rw [if_neg c19, if_neg c19]
  by_cases c23 : w &&& 127 = 23
  · rw [if_pos c23, if_pos c23, pcu]
    exact L_goOnWith v w _ hi h
  rw [if_neg c23, if_neg c23]
  by_cases c35 : w &&& 127 = 35
  · rw [if_pos c35, if_pos c35, ← e_S]
    exact L_store v w hi h
  rw [if_neg c35, if_neg c35]
  by_cases c51 : w &&& 127 = 51
  · rw [if_pos c51, if_pos c51]
    exact L_two v w hi h
  rw [if_neg c51, if_neg c51]
  by_cases c55 : w &&& 127 = 55
  · rw [if_pos c55, if_pos c55, e_U]
    exact L_goOnWith v w _ hi h
  rw [if_neg c55, if_neg c55]
  by_cases c99 : w &&& 127 = 99
  · rw [if_pos c99, if_pos c99]
    exact L_branch v w hi h
  rw [if_neg c99, if_neg c99]
  by_cases c103 : w &&& 127 = 103
  · rw [if_pos c103, if_pos c103]
    by_cases f : h_fOf w = 0
    · rw [if_pos f, if_pos f, e_m2]
      exact L_jump v w _ hi h
    · rw [if_neg f, if_neg f]
      exact L_refuse v w hi
  rw [if_neg c103, if_neg c103]
  by_cases c111 : w &&& 127 = 111
  · rw [if_pos c111, if_pos c111, e_J]
    exact L_jump v w _ hi h
  rw [if_neg c111, if_neg c111]
  by_cases c115 : w &&& 127 = 115
  · rw [if_pos c115, if_pos c115]
    exact L_sys v w c115 hi h
  rw [if_neg c115, if_neg c115]
  exact L_refuse v w hi
