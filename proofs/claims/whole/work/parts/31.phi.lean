/-! the class's state out of the reference's -/
abbrev vTH (v : RS) : Int32 := v.1
abbrev vME (v : RS) : Nat → Int32 := v.2.1
abbrev vRE (v : RS) : Nat → Int32 := v.2.2.1
abbrev vPC (v : RS) : Int32 := v.2.2.2.1
abbrev vMD (v : RS) : Int32 := v.2.2.2.2.1
abbrev vSTA (v : RS) : Int32 := v.2.2.2.2.2.1
abbrev vVEC (v : RS) : Int32 := v.2.2.2.2.2.2.1
abbrev vSCR (v : RS) : Int32 := v.2.2.2.2.2.2.2.1
abbrev vBK (v : RS) : Int32 := v.2.2.2.2.2.2.2.2.1
abbrev vCAU (v : RS) : Int32 := v.2.2.2.2.2.2.2.2.2.1
abbrev vVAL (v : RS) : Int32 := v.2.2.2.2.2.2.2.2.2.2.1
abbrev vTAB (v : RS) : Int32 := v.2.2.2.2.2.2.2.2.2.2.2.1
abbrev vTUR (v : RS) : Int32 := v.2.2.2.2.2.2.2.2.2.2.2.2.1
abbrev vWRK (v : RS) : Int32 := v.2.2.2.2.2.2.2.2.2.2.2.2.2.1
abbrev vEN (v : RS) : Int32 := v.2.2.2.2.2.2.2.2.2.2.2.2.2.2.1
abbrev vTR (v : RS) : Int32 := v.2.2.2.2.2.2.2.2.2.2.2.2.2.2.2.1
abbrev vNX (v : RS) : Int32 := v.2.2.2.2.2.2.2.2.2.2.2.2.2.2.2.2.1
abbrev vFA (v : RS) : Int32 := v.2.2.2.2.2.2.2.2.2.2.2.2.2.2.2.2.2
def cm (a0 a1 a2 a3 a4 a5 a6 a7 a8 : Int32) : Nat → Int32 := fun j => [a0, a1, a2, a3, a4, a5, a6, a7, a8].getD j 0
theorem cmu_0 (a0 a1 a2 a3 a4 a5 a6 a7 a8 x : Int32) : upd (cm a0 a1 a2 a3 a4 a5 a6 a7 a8) (0 : Int32).toNatClampNeg x = cm x a1 a2 a3 a4 a5 a6 a7 a8 := by
  funext j; match j with | 0 => rfl | 1 => rfl | 2 => rfl | 3 => rfl | 4 => rfl | 5 => rfl | 6 => rfl | 7 => rfl | 8 => rfl | n + 9 => rfl
theorem cmu_1 (a0 a1 a2 a3 a4 a5 a6 a7 a8 x : Int32) : upd (cm a0 a1 a2 a3 a4 a5 a6 a7 a8) (1 : Int32).toNatClampNeg x = cm a0 x a2 a3 a4 a5 a6 a7 a8 := by
  funext j; match j with | 0 => rfl | 1 => rfl | 2 => rfl | 3 => rfl | 4 => rfl | 5 => rfl | 6 => rfl | 7 => rfl | 8 => rfl | n + 9 => rfl
theorem cmu_2 (a0 a1 a2 a3 a4 a5 a6 a7 a8 x : Int32) : upd (cm a0 a1 a2 a3 a4 a5 a6 a7 a8) (2 : Int32).toNatClampNeg x = cm a0 a1 x a3 a4 a5 a6 a7 a8 := by
  funext j; match j with | 0 => rfl | 1 => rfl | 2 => rfl | 3 => rfl | 4 => rfl | 5 => rfl | 6 => rfl | 7 => rfl | 8 => rfl | n + 9 => rfl
theorem cmu_3 (a0 a1 a2 a3 a4 a5 a6 a7 a8 x : Int32) : upd (cm a0 a1 a2 a3 a4 a5 a6 a7 a8) (3 : Int32).toNatClampNeg x = cm a0 a1 a2 x a4 a5 a6 a7 a8 := by
  funext j; match j with | 0 => rfl | 1 => rfl | 2 => rfl | 3 => rfl | 4 => rfl | 5 => rfl | 6 => rfl | 7 => rfl | 8 => rfl | n + 9 => rfl
theorem cmu_4 (a0 a1 a2 a3 a4 a5 a6 a7 a8 x : Int32) : upd (cm a0 a1 a2 a3 a4 a5 a6 a7 a8) (4 : Int32).toNatClampNeg x = cm a0 a1 a2 a3 x a5 a6 a7 a8 := by
  funext j; match j with | 0 => rfl | 1 => rfl | 2 => rfl | 3 => rfl | 4 => rfl | 5 => rfl | 6 => rfl | 7 => rfl | 8 => rfl | n + 9 => rfl
theorem cmu_5 (a0 a1 a2 a3 a4 a5 a6 a7 a8 x : Int32) : upd (cm a0 a1 a2 a3 a4 a5 a6 a7 a8) (5 : Int32).toNatClampNeg x = cm a0 a1 a2 a3 a4 x a6 a7 a8 := by
  funext j; match j with | 0 => rfl | 1 => rfl | 2 => rfl | 3 => rfl | 4 => rfl | 5 => rfl | 6 => rfl | 7 => rfl | 8 => rfl | n + 9 => rfl
theorem cmu_6 (a0 a1 a2 a3 a4 a5 a6 a7 a8 x : Int32) : upd (cm a0 a1 a2 a3 a4 a5 a6 a7 a8) (6 : Int32).toNatClampNeg x = cm a0 a1 a2 a3 a4 a5 x a7 a8 := by
  funext j; match j with | 0 => rfl | 1 => rfl | 2 => rfl | 3 => rfl | 4 => rfl | 5 => rfl | 6 => rfl | 7 => rfl | 8 => rfl | n + 9 => rfl
theorem cmu_7 (a0 a1 a2 a3 a4 a5 a6 a7 a8 x : Int32) : upd (cm a0 a1 a2 a3 a4 a5 a6 a7 a8) (7 : Int32).toNatClampNeg x = cm a0 a1 a2 a3 a4 a5 a6 x a8 := by
  funext j; match j with | 0 => rfl | 1 => rfl | 2 => rfl | 3 => rfl | 4 => rfl | 5 => rfl | 6 => rfl | 7 => rfl | 8 => rfl | n + 9 => rfl
theorem cmu_8 (a0 a1 a2 a3 a4 a5 a6 a7 a8 x : Int32) : upd (cm a0 a1 a2 a3 a4 a5 a6 a7 a8) (8 : Int32).toNatClampNeg x = cm a0 a1 a2 a3 a4 a5 a6 a7 x := by
  funext j; match j with | 0 => rfl | 1 => rfl | 2 => rfl | 3 => rfl | 4 => rfl | 5 => rfl | 6 => rfl | 7 => rfl | 8 => rfl | n + 9 => rfl
theorem cm_0 (a0 a1 a2 a3 a4 a5 a6 a7 a8 : Int32) : cm a0 a1 a2 a3 a4 a5 a6 a7 a8 (0 : Int32).toNatClampNeg = a0 := rfl
theorem cm_1 (a0 a1 a2 a3 a4 a5 a6 a7 a8 : Int32) : cm a0 a1 a2 a3 a4 a5 a6 a7 a8 (1 : Int32).toNatClampNeg = a1 := rfl
theorem cm_2 (a0 a1 a2 a3 a4 a5 a6 a7 a8 : Int32) : cm a0 a1 a2 a3 a4 a5 a6 a7 a8 (2 : Int32).toNatClampNeg = a2 := rfl
theorem cm_3 (a0 a1 a2 a3 a4 a5 a6 a7 a8 : Int32) : cm a0 a1 a2 a3 a4 a5 a6 a7 a8 (3 : Int32).toNatClampNeg = a3 := rfl
theorem cm_4 (a0 a1 a2 a3 a4 a5 a6 a7 a8 : Int32) : cm a0 a1 a2 a3 a4 a5 a6 a7 a8 (4 : Int32).toNatClampNeg = a4 := rfl
theorem cm_5 (a0 a1 a2 a3 a4 a5 a6 a7 a8 : Int32) : cm a0 a1 a2 a3 a4 a5 a6 a7 a8 (5 : Int32).toNatClampNeg = a5 := rfl
theorem cm_6 (a0 a1 a2 a3 a4 a5 a6 a7 a8 : Int32) : cm a0 a1 a2 a3 a4 a5 a6 a7 a8 (6 : Int32).toNatClampNeg = a6 := rfl
theorem cm_7 (a0 a1 a2 a3 a4 a5 a6 a7 a8 : Int32) : cm a0 a1 a2 a3 a4 a5 a6 a7 a8 (7 : Int32).toNatClampNeg = a7 := rfl
theorem cm_8 (a0 a1 a2 a3 a4 a5 a6 a7 a8 : Int32) : cm a0 a1 a2 a3 a4 a5 a6 a7 a8 (8 : Int32).toNatClampNeg = a8 := rfl
def phi (v : RS) : HS := (vME v, vRE v, cm (vSTA v) (vVEC v) (vSCR v) (vBK v) (vCAU v) (vVAL v) (vTAB v) (vTUR v) (vWRK v), vPC v, vMD v, vEN v)
def Inv (v : RS) : Prop := (vMD v = 0 ∨ vMD v = 1) ∧ vRE v 0 = 0 ∧ vSTA v &&& 262400 = vSTA v ∧ vVEC v &&& (-4) = vVEC v ∧ vBK v &&& (-4) = vBK v ∧ (vEN v = 0 ∨ vEN v = 1) ∧ vTH v = 0
def setPC (v : RS) (x : Int32) : RS := (v.1, v.2.1, v.2.2.1, x, v.2.2.2.2)
def fin (v : RS) : Int32 × HS := if vTR v = 0 then ((1 : Int32), phi (setPC v (vNX v))) else ((0 : Int32), phi v)
def rdy (v : RS) : Prop := vTR v = 0 ∧ vNX v = vPC v + 4
theorem s18 (w : Int32) : w &&& 262144 = 0 ∨ w &&& 262144 = 262144 := by
  have e : un (w &&& 262144) = un w % 524288 / 262144 * 262144 := by
    rw [show (262144 : Int32) = 524287 &&& (-262144) from by decide, ← Int32.and_assoc, un_hi _ (-262144) 18 (by decide) (by decide), un_and w 524287 19 (by decide) rfl]
  have h : un w % 524288 / 262144 = 0 ∨ un w % 524288 / 262144 = 1 := by omega
  rcases h with h | h
  · left; exact un_inj (by rw [e, h]; rfl)
  · right; exact un_inj (by rw [e, h]; rfl)
theorem and_m4 (x : Int32) : (x &&& (-4)) &&& (-4) = x &&& (-4) := by rw [Int32.and_assoc]; rfl
theorem fin_trap {v : RS} (h : vTR v = 1) : fin v = ((0 : Int32), phi v) := by
  unfold fin
  rw [if_neg (by rw [h]; decide)]
set_option maxHeartbeats 1000000 in
theorem L_trap0 (v : RS) (c x : Int32) (hi : Inv v) : h_trap (phi v) c x = ((0 : Int32), phi (r_trap v c x)) ∧ Inv (r_trap v c x) := by
  obtain ⟨th, me, re, pc, md, sta, vec, scr, bk, cau, val, tab, tur, wrk, en, tr, nx, fa⟩ := v
  obtain ⟨hm, hr, hs, hv, hb, he⟩ := hi
  dsimp only [vMD, vRE, vSTA, vVEC, vBK, vEN] at hm hr hs hv hb he
  have h3 : hBit (3 : Int32).toNatClampNeg = -4 := rfl
  unfold h_trap r_trap phi Inv
  dsimp only [vME, vRE, vSTA, vVEC, vSCR, vBK, vCAU, vVAL, vTAB, vTUR, vWRK, vPC, vMD, vEN]
  simp only [cmu_3, cmu_4, cmu_5, cmu_0, cm_0, cm_1, h3]
  rcases hm with rfl | rfl
  · rw [if_neg (by decide)]
    dsimp only
    rw [e_m4]
    refine ⟨?_, Or.inr rfl, hr, ?_, hv, and_m4 pc, he⟩
    · rcases s18 sta with h | h <;> rw [h] <;> rfl
    · rcases s18 sta with h | h <;> rw [h] <;> decide
  · rw [if_pos rfl]
    dsimp only
    rw [e_m4]
    refine ⟨?_, Or.inr rfl, hr, ?_, hv, and_m4 pc, he⟩
    · rcases s18 sta with h | h <;> rw [h] <;> rfl
    · rcases s18 sta with h | h <;> rw [h] <;> decide
theorem L_trap (v : RS) (c x : Int32) (hi : Inv v) : h_trap (phi v) c x = fin (r_trap v c x) ∧ Inv (r_trap v c x) := by
  rw [fin_trap (r_trapT v c x)]
  exact L_trap0 v c x hi
theorem L_refuse (v : RS) (w : Int32) (hi : Inv v) : h_refuse (phi v) w = fin (r_trap v 2 w) ∧ Inv (r_trap v 2 w) := L_trap v 2 w hi
theorem L_goOn (v : RS) (h : rdy v) : h_goOn (phi v) = fin v := by
  unfold fin h_goOn
  rw [if_pos h.1, h.2]
  rfl
def setRE (v : RS) (f : Nat → Int32) : RS := (v.1, v.2.1, f, v.2.2.2)
theorem r_set_eq (v : RS) (D d : Int32) : r_set v D d = setRE v (upd (vRE v) D.toNatClampNeg (if D = 0 then 0 else d)) := by
  unfold r_set setRE
  by_cases h : D = 0
  · rw [if_pos h, if_pos h]
  · rw [if_neg h, if_neg h]
theorem upd_same {f : Nat → Int32} {k : Nat} {x : Int32} (h : f k = x) : upd f k x = f := by
  funext j
  unfold upd
  split
  · rename_i q; rw [q, h]
  · rfl
theorem cl_un {x : Int32} (h : un x < 2147483648) : x.toNatClampNeg = un x := by
  rw [n_of x, nI_clamp (by exact h), un_nI (un_lt x)]
theorem L_set (v : RS) (D d : Int32) (hD : un D < 32) (hi : Inv v) : phi (r_set v D d) = (if D = 0 then phi v else ((phi v).1, upd (phi v).2.1 D.toNatClampNeg d, (phi v).2.2)) ∧ Inv (r_set v D d) := by
  rw [r_set_eq]
  obtain ⟨hm, hr, hs, hv, hb, he⟩ := hi
  by_cases h : D = 0
  · subst h
    rw [if_pos rfl, if_pos rfl]
    have e : upd (vRE v) (0 : Int32).toNatClampNeg 0 = vRE v := upd_same hr
    rw [e]
    exact ⟨rfl, hm, hr, hs, hv, hb, he⟩
  · rw [if_neg h, if_neg h]
    refine ⟨rfl, hm, ?_, hs, hv, hb, he⟩
    show upd (vRE v) D.toNatClampNeg d 0 = 0
    rw [cl_un (by omega)]
    have h0 : un D ≠ 0 := fun q => h ((z_un D).mpr q)
    unfold upd
    rw [if_neg (fun q => h0 q.symm)]
    exact hr
theorem D_lt (w : Int32) : un (r_bits w 7 11) < 32 := by rw [u_7_11]; omega
theorem L_writeD (v : RS) (w d : Int32) (hi : Inv v) : h_writeD (phi v) w d = phi (r_set v (r_bits w 7 11) d) ∧ Inv (r_set v (r_bits w 7 11) d) := by
  obtain ⟨h1, h2⟩ := L_set v (r_bits w 7 11) d (D_lt w) hi
  refine ⟨?_, h2⟩
  rw [h1, e_D]
  rfl
theorem rdy_set {v : RS} (h : rdy v) (D d : Int32) : rdy (r_set v D d) := by rw [r_set_eq]; exact h
theorem L_goOnWith (v : RS) (w d : Int32) (hi : Inv v) (h : rdy v) : h_goOnWith (phi v) w d = fin (r_set v (r_bits w 7 11) d) ∧ Inv (r_set v (r_bits w 7 11) d) := by
  obtain ⟨h1, h2⟩ := L_writeD v w d hi
  refine ⟨?_, h2⟩
  unfold h_goOnWith
  dsimp only
  rw [h1]
  exact L_goOn _ (rdy_set h _ _)
def setNX (v : RS) (x : Int32) : RS := (v.1, v.2.1, v.2.2.1, v.2.2.2.1, v.2.2.2.2.1, v.2.2.2.2.2.1, v.2.2.2.2.2.2.1, v.2.2.2.2.2.2.2.1, v.2.2.2.2.2.2.2.2.1, v.2.2.2.2.2.2.2.2.2.1, v.2.2.2.2.2.2.2.2.2.2.1, v.2.2.2.2.2.2.2.2.2.2.2.1, v.2.2.2.2.2.2.2.2.2.2.2.2.1, v.2.2.2.2.2.2.2.2.2.2.2.2.2.1, v.2.2.2.2.2.2.2.2.2.2.2.2.2.2.1, v.2.2.2.2.2.2.2.2.2.2.2.2.2.2.2.1, x, v.2.2.2.2.2.2.2.2.2.2.2.2.2.2.2.2.2)
theorem r_jump_eq (v : RS) (t D : Int32) : r_jump v t D = if r_bits t 0 1 = 0 then setNX (r_set v D (vPC v + 4)) t else r_trap v 0 t := rfl
theorem fin_nx {v : RS} (h : vTR v = 0) (t : Int32) : fin (setNX v t) = ((1 : Int32), phi (setPC v t)) := by
  unfold fin
  rw [if_pos (show vTR (setNX v t) = 0 from h)]
  rfl
theorem L_jump (v : RS) (w t : Int32) (hi : Inv v) (h : rdy v) : h_jump (phi v) w t = fin (r_jump v t (r_bits w 7 11)) ∧ Inv (r_jump v t (r_bits w 7 11)) := by
  rw [r_jump_eq]
  unfold h_jump
  dsimp only
  rw [e_al]
  by_cases hc : t &&& 3 = 0
  · rw [if_pos hc, if_pos hc]
    obtain ⟨h1, h2⟩ := L_writeD v w (vPC v + 4) hi
    refine ⟨?_, h2⟩
    rw [fin_nx (rdy_set h _ _).1]
    have h3 : h_writeD (phi v) w ((phi v).2.2.2.1 + 4) = phi (r_set v (r_bits w 7 11) (vPC v + 4)) := h1
    rw [h3]
    rfl
  · rw [if_neg hc, if_neg hc]
    exact L_trap v 0 t hi
