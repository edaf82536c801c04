/-! the system's instructions -/
def setEN (v : RS) (x : Int32) : RS := (v.1, v.2.1, v.2.2.1, v.2.2.2.1, v.2.2.2.2.1, v.2.2.2.2.2.1, v.2.2.2.2.2.2.1, v.2.2.2.2.2.2.2.1, v.2.2.2.2.2.2.2.2.1, v.2.2.2.2.2.2.2.2.2.1, v.2.2.2.2.2.2.2.2.2.2.1, v.2.2.2.2.2.2.2.2.2.2.2.1, v.2.2.2.2.2.2.2.2.2.2.2.2.1, v.2.2.2.2.2.2.2.2.2.2.2.2.2.1, x, v.2.2.2.2.2.2.2.2.2.2.2.2.2.2.2.1, v.2.2.2.2.2.2.2.2.2.2.2.2.2.2.2.2.1, v.2.2.2.2.2.2.2.2.2.2.2.2.2.2.2.2.2)
theorem en_rdy {v : RS} (h : rdy v) (x : Int32) : rdy (setEN v x) := h
theorem en_inv {v : RS} (h : Inv v) : Inv (setEN v 1) := ⟨h.1, h.2.1, h.2.2.1, h.2.2.2.1, h.2.2.2.2.1, Or.inr rfl, h.2.2.2.2.2.2⟩
def setBack (v : RS) (m s : Int32) : RS := (v.1, v.2.1, v.2.2.1, v.2.2.2.1, m, s, v.2.2.2.2.2.2.1, v.2.2.2.2.2.2.2.1, v.2.2.2.2.2.2.2.2.1, v.2.2.2.2.2.2.2.2.2.1, v.2.2.2.2.2.2.2.2.2.2.1, v.2.2.2.2.2.2.2.2.2.2.2.1, v.2.2.2.2.2.2.2.2.2.2.2.2.1, v.2.2.2.2.2.2.2.2.2.2.2.2.2.1, v.2.2.2.2.2.2.2.2.2.2.2.2.2.2.1, v.2.2.2.2.2.2.2.2.2.2.2.2.2.2.2.1, v.2.2.2.2.2.2.2.2.1, v.2.2.2.2.2.2.2.2.2.2.2.2.2.2.2.2.2)
theorem a_256 (w : Int32) : un (w &&& 256) = un w / 256 % 2 * 256 := by
  rw [show (256 : Int32) = 511 &&& (-256) from by decide, ← Int32.and_assoc, un_hi _ (-256) 8 (by decide) (by decide), un_and w 511 9 (by decide) rfl]
  omega
theorem md_eq (s : Int32) : (jush s 8) &&& 1 = if s &&& 256 = 0 then 0 else 1 := un_inj (by
  rw [a_1, j_8]
  by_cases c : s &&& 256 = 0
  · rw [if_pos c]
    rw [z_un, a_256] at c
    show _ = 0
    omega
  · rw [if_neg c]
    rw [z_un, a_256] at c
    show _ = 1
    omega)
theorem st_257 {s : Int32} (h : s &&& 262400 = s) : s &&& (-257) = s &&& 262144 := by
  have e : (s &&& 262400) &&& (-257) = s &&& 262144 := by rw [Int32.and_assoc]; rfl
  rw [h] at e
  exact e
theorem L_back (v : RS) (hi : Inv v) (h : rdy v) : h_returnFromTrap (phi v) = fin (setBack v (if vSTA v &&& 256 = 0 then 0 else 1) (vSTA v &&& 262144)) ∧ Inv (setBack v (if vSTA v &&& 256 = 0 then 0 else 1) (vSTA v &&& 262144)) := by
  obtain ⟨hm, hr, hs, hv, hb, he⟩ := hi
  constructor
  · unfold h_returnFromTrap fin
    rw [if_pos (show vTR (setBack v (if vSTA v &&& 256 = 0 then 0 else 1) (vSTA v &&& 262144)) = 0 from h.1)]
    have e0 : (phi v).2.2.1 (0 : Int32).toNatClampNeg = vSTA v := rfl
    have e3 : (phi v).2.2.1 (3 : Int32).toNatClampNeg = vBK v := rfl
    have e1 : upd (phi v).2.2.1 (0 : Int32).toNatClampNeg (vSTA v &&& 262144) = cm (vSTA v &&& 262144) (vVEC v) (vSCR v) (vBK v) (vCAU v) (vVAL v) (vTAB v) (vTUR v) (vWRK v) := cmu_0 ..
    dsimp only
    rw [e0, e3, md_eq, st_257 hs, e1]
    rfl
  · refine ⟨?_, hr, ?_, hv, hb, he⟩
    · show (if vSTA v &&& 256 = 0 then (0 : Int32) else 1) = 0 ∨ (if vSTA v &&& 256 = 0 then (0 : Int32) else 1) = 1
      by_cases c : vSTA v &&& 256 = 0
      · rw [if_pos c]; exact Or.inl rfl
      · rw [if_neg c]; exact Or.inr rfl
    · show (vSTA v &&& 262144) &&& 262400 = vSTA v &&& 262144
      rw [Int32.and_assoc]; rfl
/-! the controls -/
theorem hn_0 : hNum (0 : Int32).toNatClampNeg = 256 := rfl
theorem hn_1 : hNum (1 : Int32).toNatClampNeg = 261 := rfl
theorem hn_2 : hNum (2 : Int32).toNatClampNeg = 320 := rfl
theorem hn_3 : hNum (3 : Int32).toNatClampNeg = 321 := rfl
theorem hn_4 : hNum (4 : Int32).toNatClampNeg = 322 := rfl
theorem hn_5 : hNum (5 : Int32).toNatClampNeg = 323 := rfl
theorem hn_6 : hNum (6 : Int32).toNatClampNeg = 384 := rfl
theorem hn_7 : hNum (7 : Int32).toNatClampNeg = 1472 := rfl
theorem hn_8 : hNum (8 : Int32).toNatClampNeg = 1473 := rfl
/-- slot k holds the control n -/
def SlotR (v : RS) (n k : Int32) : Prop := h_slotOf n = k ∧ 0 ≤ k ∧ r_isControl n = 1 ∧ (phi v).2.2.1 k.toNatClampNeg = r_controlOf v n ∧ (∀ x, ((phi v).1, (phi v).2.1, upd (phi v).2.2.1 k.toNatClampNeg (x &&& hBit k.toNatClampNeg), (phi v).2.2.2.1, (phi v).2.2.2.2.1, (phi v).2.2.2.2.2) = phi (r_putControl v n x)) ∧ (Inv v → ∀ x, Inv (r_putControl v n x)) ∧ (rdy v → ∀ x, rdy (r_putControl v n x)) ∧ (Inv v → r_putControl v n (r_controlOf v n) = v)
def put0 (v : RS) (x : Int32) : RS := (v.1, v.2.1, v.2.2.1, v.2.2.2.1, v.2.2.2.2.1, x, v.2.2.2.2.2.2.1, v.2.2.2.2.2.2.2.1, v.2.2.2.2.2.2.2.2.1, v.2.2.2.2.2.2.2.2.2.1, v.2.2.2.2.2.2.2.2.2.2.1, v.2.2.2.2.2.2.2.2.2.2.2.1, v.2.2.2.2.2.2.2.2.2.2.2.2.1, v.2.2.2.2.2.2.2.2.2.2.2.2.2.1, v.2.2.2.2.2.2.2.2.2.2.2.2.2.2.1, v.2.2.2.2.2.2.2.2.2.2.2.2.2.2.2.1, v.2.2.2.2.2.2.2.2.2.2.2.2.2.2.2.2.1, v.2.2.2.2.2.2.2.2.2.2.2.2.2.2.2.2.2)
theorem pe_0 (v : RS) (x : Int32) : r_putControl v 256 x = put0 v (x &&& (262400)) := by
  unfold r_putControl put0
  simp +decide only [if_true, if_false]
theorem ce_0 (v : RS) : r_controlOf v 256 = vSTA v := by
  unfold r_controlOf
  simp +decide only [if_true, if_false]
theorem so_0 : h_slotOf 256 = 0 := by
  unfold h_slotOf
  simp +decide only [hn_0, hn_1, hn_2, hn_3, hn_4, hn_5, hn_6, hn_7, hn_8, if_true, if_false]
theorem ic_0 : r_isControl 256 = 1 := by
  unfold r_isControl
  simp +decide only [if_true, if_false]
theorem pp_0 (v : RS) (x : Int32) : ((phi v).1, (phi v).2.1, upd (phi v).2.2.1 (0 : Int32).toNatClampNeg x, (phi v).2.2.2.1, (phi v).2.2.2.2.1, (phi v).2.2.2.2.2) = phi (put0 v x) := by
  have e : upd (phi v).2.2.1 (0 : Int32).toNatClampNeg x = (phi (put0 v x)).2.2.1 := cmu_0 ..
  rw [e]
  rfl
theorem pi_0 {v : RS} (h : Inv v) (x : Int32) : Inv (put0 v (x &&& (262400))) := ⟨h.1, h.2.1, by show (x &&& 262400) &&& 262400 = x &&& 262400; rw [Int32.and_assoc]; rfl, h.2.2.2.1, h.2.2.2.2.1, h.2.2.2.2.2⟩
theorem ps_0 {v : RS} (h : Inv v) : put0 v (vSTA v &&& (262400)) = v := by
  have e : vSTA v &&& (262400) = vSTA v := h.2.2.1
  rw [e]
  rfl
theorem sr_0 (v : RS) : SlotR v 256 0 := ⟨so_0, by decide, ic_0, by rw [ce_0]; rfl, fun x => by rw [pe_0]; exact pp_0 v _, fun h x => by rw [pe_0]; exact pi_0 h x, fun h x => by rw [pe_0]; exact h, fun h => by rw [pe_0, ce_0]; exact ps_0 h⟩
def put1 (v : RS) (x : Int32) : RS := (v.1, v.2.1, v.2.2.1, v.2.2.2.1, v.2.2.2.2.1, v.2.2.2.2.2.1, x, v.2.2.2.2.2.2.2.1, v.2.2.2.2.2.2.2.2.1, v.2.2.2.2.2.2.2.2.2.1, v.2.2.2.2.2.2.2.2.2.2.1, v.2.2.2.2.2.2.2.2.2.2.2.1, v.2.2.2.2.2.2.2.2.2.2.2.2.1, v.2.2.2.2.2.2.2.2.2.2.2.2.2.1, v.2.2.2.2.2.2.2.2.2.2.2.2.2.2.1, v.2.2.2.2.2.2.2.2.2.2.2.2.2.2.2.1, v.2.2.2.2.2.2.2.2.2.2.2.2.2.2.2.2.1, v.2.2.2.2.2.2.2.2.2.2.2.2.2.2.2.2.2)
theorem pe_1 (v : RS) (x : Int32) : r_putControl v 261 x = put1 v (x &&& (-4)) := by
  unfold r_putControl put1
  simp +decide only [if_true, if_false, e_m4]
theorem ce_1 (v : RS) : r_controlOf v 261 = vVEC v := by
  unfold r_controlOf
  simp +decide only [if_true, if_false]
theorem so_1 : h_slotOf 261 = 1 := by
  unfold h_slotOf
  simp +decide only [hn_0, hn_1, hn_2, hn_3, hn_4, hn_5, hn_6, hn_7, hn_8, if_true, if_false]
theorem ic_1 : r_isControl 261 = 1 := by
  unfold r_isControl
  simp +decide only [if_true, if_false]
theorem pp_1 (v : RS) (x : Int32) : ((phi v).1, (phi v).2.1, upd (phi v).2.2.1 (1 : Int32).toNatClampNeg x, (phi v).2.2.2.1, (phi v).2.2.2.2.1, (phi v).2.2.2.2.2) = phi (put1 v x) := by
  have e : upd (phi v).2.2.1 (1 : Int32).toNatClampNeg x = (phi (put1 v x)).2.2.1 := cmu_1 ..
  rw [e]
  rfl
theorem pi_1 {v : RS} (h : Inv v) (x : Int32) : Inv (put1 v (x &&& (-4))) := ⟨h.1, h.2.1, h.2.2.1, and_m4 x, h.2.2.2.2.1, h.2.2.2.2.2⟩
theorem ps_1 {v : RS} (h : Inv v) : put1 v (vVEC v &&& (-4)) = v := by
  have e : vVEC v &&& (-4) = vVEC v := h.2.2.2.1
  rw [e]
  rfl
theorem sr_1 (v : RS) : SlotR v 261 1 := ⟨so_1, by decide, ic_1, by rw [ce_1]; rfl, fun x => by rw [pe_1]; exact pp_1 v _, fun h x => by rw [pe_1]; exact pi_1 h x, fun h x => by rw [pe_1]; exact h, fun h => by rw [pe_1, ce_1]; exact ps_1 h⟩
def put2 (v : RS) (x : Int32) : RS := (v.1, v.2.1, v.2.2.1, v.2.2.2.1, v.2.2.2.2.1, v.2.2.2.2.2.1, v.2.2.2.2.2.2.1, x, v.2.2.2.2.2.2.2.2.1, v.2.2.2.2.2.2.2.2.2.1, v.2.2.2.2.2.2.2.2.2.2.1, v.2.2.2.2.2.2.2.2.2.2.2.1, v.2.2.2.2.2.2.2.2.2.2.2.2.1, v.2.2.2.2.2.2.2.2.2.2.2.2.2.1, v.2.2.2.2.2.2.2.2.2.2.2.2.2.2.1, v.2.2.2.2.2.2.2.2.2.2.2.2.2.2.2.1, v.2.2.2.2.2.2.2.2.2.2.2.2.2.2.2.2.1, v.2.2.2.2.2.2.2.2.2.2.2.2.2.2.2.2.2)
theorem pe_2 (v : RS) (x : Int32) : r_putControl v 320 x = put2 v (x &&& (-1)) := by
  unfold r_putControl put2
  simp +decide only [if_true, if_false, Int32.and_neg_one]
theorem ce_2 (v : RS) : r_controlOf v 320 = vSCR v := by
  unfold r_controlOf
  simp +decide only [if_true, if_false]
theorem so_2 : h_slotOf 320 = 2 := by
  unfold h_slotOf
  simp +decide only [hn_0, hn_1, hn_2, hn_3, hn_4, hn_5, hn_6, hn_7, hn_8, if_true, if_false]
theorem ic_2 : r_isControl 320 = 1 := by
  unfold r_isControl
  simp +decide only [if_true, if_false]
theorem pp_2 (v : RS) (x : Int32) : ((phi v).1, (phi v).2.1, upd (phi v).2.2.1 (2 : Int32).toNatClampNeg x, (phi v).2.2.2.1, (phi v).2.2.2.2.1, (phi v).2.2.2.2.2) = phi (put2 v x) := by
  have e : upd (phi v).2.2.1 (2 : Int32).toNatClampNeg x = (phi (put2 v x)).2.2.1 := cmu_2 ..
  rw [e]
  rfl
theorem pi_2 {v : RS} (h : Inv v) (x : Int32) : Inv (put2 v (x &&& (-1))) := ⟨h.1, h.2.1, h.2.2.1, h.2.2.2.1, h.2.2.2.2.1, h.2.2.2.2.2⟩
theorem ps_2 {v : RS} (h : Inv v) : put2 v (vSCR v &&& (-1)) = v := by
  have e : vSCR v &&& (-1) = vSCR v := Int32.and_neg_one
  rw [e]
  rfl
theorem sr_2 (v : RS) : SlotR v 320 2 := ⟨so_2, by decide, ic_2, by rw [ce_2]; rfl, fun x => by rw [pe_2]; exact pp_2 v _, fun h x => by rw [pe_2]; exact pi_2 h x, fun h x => by rw [pe_2]; exact h, fun h => by rw [pe_2, ce_2]; exact ps_2 h⟩
def put3 (v : RS) (x : Int32) : RS := (v.1, v.2.1, v.2.2.1, v.2.2.2.1, v.2.2.2.2.1, v.2.2.2.2.2.1, v.2.2.2.2.2.2.1, v.2.2.2.2.2.2.2.1, x, v.2.2.2.2.2.2.2.2.2.1, v.2.2.2.2.2.2.2.2.2.2.1, v.2.2.2.2.2.2.2.2.2.2.2.1, v.2.2.2.2.2.2.2.2.2.2.2.2.1, v.2.2.2.2.2.2.2.2.2.2.2.2.2.1, v.2.2.2.2.2.2.2.2.2.2.2.2.2.2.1, v.2.2.2.2.2.2.2.2.2.2.2.2.2.2.2.1, v.2.2.2.2.2.2.2.2.2.2.2.2.2.2.2.2.1, v.2.2.2.2.2.2.2.2.2.2.2.2.2.2.2.2.2)
theorem pe_3 (v : RS) (x : Int32) : r_putControl v 321 x = put3 v (x &&& (-4)) := by
  unfold r_putControl put3
  simp +decide only [if_true, if_false, e_m4]
theorem ce_3 (v : RS) : r_controlOf v 321 = vBK v := by
  unfold r_controlOf
  simp +decide only [if_true, if_false]
theorem so_3 : h_slotOf 321 = 3 := by
  unfold h_slotOf
  simp +decide only [hn_0, hn_1, hn_2, hn_3, hn_4, hn_5, hn_6, hn_7, hn_8, if_true, if_false]
theorem ic_3 : r_isControl 321 = 1 := by
  unfold r_isControl
  simp +decide only [if_true, if_false]
theorem pp_3 (v : RS) (x : Int32) : ((phi v).1, (phi v).2.1, upd (phi v).2.2.1 (3 : Int32).toNatClampNeg x, (phi v).2.2.2.1, (phi v).2.2.2.2.1, (phi v).2.2.2.2.2) = phi (put3 v x) := by
  have e : upd (phi v).2.2.1 (3 : Int32).toNatClampNeg x = (phi (put3 v x)).2.2.1 := cmu_3 ..
  rw [e]
  rfl
theorem pi_3 {v : RS} (h : Inv v) (x : Int32) : Inv (put3 v (x &&& (-4))) := ⟨h.1, h.2.1, h.2.2.1, h.2.2.2.1, and_m4 x, h.2.2.2.2.2⟩
theorem ps_3 {v : RS} (h : Inv v) : put3 v (vBK v &&& (-4)) = v := by
  have e : vBK v &&& (-4) = vBK v := h.2.2.2.2.1
  rw [e]
  rfl
theorem sr_3 (v : RS) : SlotR v 321 3 := ⟨so_3, by decide, ic_3, by rw [ce_3]; rfl, fun x => by rw [pe_3]; exact pp_3 v _, fun h x => by rw [pe_3]; exact pi_3 h x, fun h x => by rw [pe_3]; exact h, fun h => by rw [pe_3, ce_3]; exact ps_3 h⟩
def put4 (v : RS) (x : Int32) : RS := (v.1, v.2.1, v.2.2.1, v.2.2.2.1, v.2.2.2.2.1, v.2.2.2.2.2.1, v.2.2.2.2.2.2.1, v.2.2.2.2.2.2.2.1, v.2.2.2.2.2.2.2.2.1, x, v.2.2.2.2.2.2.2.2.2.2.1, v.2.2.2.2.2.2.2.2.2.2.2.1, v.2.2.2.2.2.2.2.2.2.2.2.2.1, v.2.2.2.2.2.2.2.2.2.2.2.2.2.1, v.2.2.2.2.2.2.2.2.2.2.2.2.2.2.1, v.2.2.2.2.2.2.2.2.2.2.2.2.2.2.2.1, v.2.2.2.2.2.2.2.2.2.2.2.2.2.2.2.2.1, v.2.2.2.2.2.2.2.2.2.2.2.2.2.2.2.2.2)
theorem pe_4 (v : RS) (x : Int32) : r_putControl v 322 x = put4 v (x &&& (-1)) := by
  unfold r_putControl put4
  simp +decide only [if_true, if_false, Int32.and_neg_one]
theorem ce_4 (v : RS) : r_controlOf v 322 = vCAU v := by
  unfold r_controlOf
  simp +decide only [if_true, if_false]
theorem so_4 : h_slotOf 322 = 4 := by
  unfold h_slotOf
  simp +decide only [hn_0, hn_1, hn_2, hn_3, hn_4, hn_5, hn_6, hn_7, hn_8, if_true, if_false]
theorem ic_4 : r_isControl 322 = 1 := by
  unfold r_isControl
  simp +decide only [if_true, if_false]
theorem pp_4 (v : RS) (x : Int32) : ((phi v).1, (phi v).2.1, upd (phi v).2.2.1 (4 : Int32).toNatClampNeg x, (phi v).2.2.2.1, (phi v).2.2.2.2.1, (phi v).2.2.2.2.2) = phi (put4 v x) := by
  have e : upd (phi v).2.2.1 (4 : Int32).toNatClampNeg x = (phi (put4 v x)).2.2.1 := cmu_4 ..
  rw [e]
  rfl
theorem pi_4 {v : RS} (h : Inv v) (x : Int32) : Inv (put4 v (x &&& (-1))) := ⟨h.1, h.2.1, h.2.2.1, h.2.2.2.1, h.2.2.2.2.1, h.2.2.2.2.2⟩
theorem ps_4 {v : RS} (h : Inv v) : put4 v (vCAU v &&& (-1)) = v := by
  have e : vCAU v &&& (-1) = vCAU v := Int32.and_neg_one
  rw [e]
  rfl
theorem sr_4 (v : RS) : SlotR v 322 4 := ⟨so_4, by decide, ic_4, by rw [ce_4]; rfl, fun x => by rw [pe_4]; exact pp_4 v _, fun h x => by rw [pe_4]; exact pi_4 h x, fun h x => by rw [pe_4]; exact h, fun h => by rw [pe_4, ce_4]; exact ps_4 h⟩
def put5 (v : RS) (x : Int32) : RS := (v.1, v.2.1, v.2.2.1, v.2.2.2.1, v.2.2.2.2.1, v.2.2.2.2.2.1, v.2.2.2.2.2.2.1, v.2.2.2.2.2.2.2.1, v.2.2.2.2.2.2.2.2.1, v.2.2.2.2.2.2.2.2.2.1, x, v.2.2.2.2.2.2.2.2.2.2.2.1, v.2.2.2.2.2.2.2.2.2.2.2.2.1, v.2.2.2.2.2.2.2.2.2.2.2.2.2.1, v.2.2.2.2.2.2.2.2.2.2.2.2.2.2.1, v.2.2.2.2.2.2.2.2.2.2.2.2.2.2.2.1, v.2.2.2.2.2.2.2.2.2.2.2.2.2.2.2.2.1, v.2.2.2.2.2.2.2.2.2.2.2.2.2.2.2.2.2)
theorem pe_5 (v : RS) (x : Int32) : r_putControl v 323 x = put5 v (x &&& (-1)) := by
  unfold r_putControl put5
  simp +decide only [if_true, if_false, Int32.and_neg_one]
theorem ce_5 (v : RS) : r_controlOf v 323 = vVAL v := by
  unfold r_controlOf
  simp +decide only [if_true, if_false]
theorem so_5 : h_slotOf 323 = 5 := by
  unfold h_slotOf
  simp +decide only [hn_0, hn_1, hn_2, hn_3, hn_4, hn_5, hn_6, hn_7, hn_8, if_true, if_false]
theorem ic_5 : r_isControl 323 = 1 := by
  unfold r_isControl
  simp +decide only [if_true, if_false]
theorem pp_5 (v : RS) (x : Int32) : ((phi v).1, (phi v).2.1, upd (phi v).2.2.1 (5 : Int32).toNatClampNeg x, (phi v).2.2.2.1, (phi v).2.2.2.2.1, (phi v).2.2.2.2.2) = phi (put5 v x) := by
  have e : upd (phi v).2.2.1 (5 : Int32).toNatClampNeg x = (phi (put5 v x)).2.2.1 := cmu_5 ..
  rw [e]
  rfl
theorem pi_5 {v : RS} (h : Inv v) (x : Int32) : Inv (put5 v (x &&& (-1))) := ⟨h.1, h.2.1, h.2.2.1, h.2.2.2.1, h.2.2.2.2.1, h.2.2.2.2.2⟩
theorem ps_5 {v : RS} (h : Inv v) : put5 v (vVAL v &&& (-1)) = v := by
  have e : vVAL v &&& (-1) = vVAL v := Int32.and_neg_one
  rw [e]
  rfl
theorem sr_5 (v : RS) : SlotR v 323 5 := ⟨so_5, by decide, ic_5, by rw [ce_5]; rfl, fun x => by rw [pe_5]; exact pp_5 v _, fun h x => by rw [pe_5]; exact pi_5 h x, fun h x => by rw [pe_5]; exact h, fun h => by rw [pe_5, ce_5]; exact ps_5 h⟩
def put6 (v : RS) (x : Int32) : RS := (v.1, v.2.1, v.2.2.1, v.2.2.2.1, v.2.2.2.2.1, v.2.2.2.2.2.1, v.2.2.2.2.2.2.1, v.2.2.2.2.2.2.2.1, v.2.2.2.2.2.2.2.2.1, v.2.2.2.2.2.2.2.2.2.1, v.2.2.2.2.2.2.2.2.2.2.1, x, v.2.2.2.2.2.2.2.2.2.2.2.2.1, v.2.2.2.2.2.2.2.2.2.2.2.2.2.1, v.2.2.2.2.2.2.2.2.2.2.2.2.2.2.1, v.2.2.2.2.2.2.2.2.2.2.2.2.2.2.2.1, v.2.2.2.2.2.2.2.2.2.2.2.2.2.2.2.2.1, v.2.2.2.2.2.2.2.2.2.2.2.2.2.2.2.2.2)
theorem pe_6 (v : RS) (x : Int32) : r_putControl v 384 x = put6 v (x &&& (-1)) := by
  unfold r_putControl put6
  simp +decide only [if_true, if_false, Int32.and_neg_one]
theorem ce_6 (v : RS) : r_controlOf v 384 = vTAB v := by
  unfold r_controlOf
  simp +decide only [if_true, if_false]
theorem so_6 : h_slotOf 384 = 6 := by
  unfold h_slotOf
  simp +decide only [hn_0, hn_1, hn_2, hn_3, hn_4, hn_5, hn_6, hn_7, hn_8, if_true, if_false]
theorem ic_6 : r_isControl 384 = 1 := by
  unfold r_isControl
  simp +decide only [if_true, if_false]
theorem pp_6 (v : RS) (x : Int32) : ((phi v).1, (phi v).2.1, upd (phi v).2.2.1 (6 : Int32).toNatClampNeg x, (phi v).2.2.2.1, (phi v).2.2.2.2.1, (phi v).2.2.2.2.2) = phi (put6 v x) := by
  have e : upd (phi v).2.2.1 (6 : Int32).toNatClampNeg x = (phi (put6 v x)).2.2.1 := cmu_6 ..
  rw [e]
  rfl
theorem pi_6 {v : RS} (h : Inv v) (x : Int32) : Inv (put6 v (x &&& (-1))) := ⟨h.1, h.2.1, h.2.2.1, h.2.2.2.1, h.2.2.2.2.1, h.2.2.2.2.2⟩
theorem ps_6 {v : RS} (h : Inv v) : put6 v (vTAB v &&& (-1)) = v := by
  have e : vTAB v &&& (-1) = vTAB v := Int32.and_neg_one
  rw [e]
  rfl
theorem sr_6 (v : RS) : SlotR v 384 6 := ⟨so_6, by decide, ic_6, by rw [ce_6]; rfl, fun x => by rw [pe_6]; exact pp_6 v _, fun h x => by rw [pe_6]; exact pi_6 h x, fun h x => by rw [pe_6]; exact h, fun h => by rw [pe_6, ce_6]; exact ps_6 h⟩
def put7 (v : RS) (x : Int32) : RS := (v.1, v.2.1, v.2.2.1, v.2.2.2.1, v.2.2.2.2.1, v.2.2.2.2.2.1, v.2.2.2.2.2.2.1, v.2.2.2.2.2.2.2.1, v.2.2.2.2.2.2.2.2.1, v.2.2.2.2.2.2.2.2.2.1, v.2.2.2.2.2.2.2.2.2.2.1, v.2.2.2.2.2.2.2.2.2.2.2.1, x, v.2.2.2.2.2.2.2.2.2.2.2.2.2.1, v.2.2.2.2.2.2.2.2.2.2.2.2.2.2.1, v.2.2.2.2.2.2.2.2.2.2.2.2.2.2.2.1, v.2.2.2.2.2.2.2.2.2.2.2.2.2.2.2.2.1, v.2.2.2.2.2.2.2.2.2.2.2.2.2.2.2.2.2)
theorem pe_7 (v : RS) (x : Int32) : r_putControl v 1472 x = put7 v (x &&& (-1)) := by
  unfold r_putControl put7
  simp +decide only [if_true, if_false, Int32.and_neg_one]
theorem ce_7 (v : RS) : r_controlOf v 1472 = vTUR v := by
  unfold r_controlOf
  simp +decide only [if_true, if_false]
theorem so_7 : h_slotOf 1472 = 7 := by
  unfold h_slotOf
  simp +decide only [hn_0, hn_1, hn_2, hn_3, hn_4, hn_5, hn_6, hn_7, hn_8, if_true, if_false]
theorem ic_7 : r_isControl 1472 = 1 := by
  unfold r_isControl
  simp +decide only [if_true, if_false]
theorem pp_7 (v : RS) (x : Int32) : ((phi v).1, (phi v).2.1, upd (phi v).2.2.1 (7 : Int32).toNatClampNeg x, (phi v).2.2.2.1, (phi v).2.2.2.2.1, (phi v).2.2.2.2.2) = phi (put7 v x) := by
  have e : upd (phi v).2.2.1 (7 : Int32).toNatClampNeg x = (phi (put7 v x)).2.2.1 := cmu_7 ..
  rw [e]
  rfl
theorem pi_7 {v : RS} (h : Inv v) (x : Int32) : Inv (put7 v (x &&& (-1))) := ⟨h.1, h.2.1, h.2.2.1, h.2.2.2.1, h.2.2.2.2.1, h.2.2.2.2.2⟩
theorem ps_7 {v : RS} (h : Inv v) : put7 v (vTUR v &&& (-1)) = v := by
  have e : vTUR v &&& (-1) = vTUR v := Int32.and_neg_one
  rw [e]
  rfl
theorem sr_7 (v : RS) : SlotR v 1472 7 := ⟨so_7, by decide, ic_7, by rw [ce_7]; rfl, fun x => by rw [pe_7]; exact pp_7 v _, fun h x => by rw [pe_7]; exact pi_7 h x, fun h x => by rw [pe_7]; exact h, fun h => by rw [pe_7, ce_7]; exact ps_7 h⟩
def put8 (v : RS) (x : Int32) : RS := (v.1, v.2.1, v.2.2.1, v.2.2.2.1, v.2.2.2.2.1, v.2.2.2.2.2.1, v.2.2.2.2.2.2.1, v.2.2.2.2.2.2.2.1, v.2.2.2.2.2.2.2.2.1, v.2.2.2.2.2.2.2.2.2.1, v.2.2.2.2.2.2.2.2.2.2.1, v.2.2.2.2.2.2.2.2.2.2.2.1, v.2.2.2.2.2.2.2.2.2.2.2.2.1, x, v.2.2.2.2.2.2.2.2.2.2.2.2.2.2.1, v.2.2.2.2.2.2.2.2.2.2.2.2.2.2.2.1, v.2.2.2.2.2.2.2.2.2.2.2.2.2.2.2.2.1, v.2.2.2.2.2.2.2.2.2.2.2.2.2.2.2.2.2)
theorem pe_8 (v : RS) (x : Int32) : r_putControl v 1473 x = put8 v (x &&& (-1)) := by
  unfold r_putControl put8
  simp +decide only [if_true, if_false, Int32.and_neg_one]
theorem ce_8 (v : RS) : r_controlOf v 1473 = vWRK v := by
  unfold r_controlOf
  simp +decide only [if_true, if_false]
theorem so_8 : h_slotOf 1473 = 8 := by
  unfold h_slotOf
  simp +decide only [hn_0, hn_1, hn_2, hn_3, hn_4, hn_5, hn_6, hn_7, hn_8, if_true, if_false]
theorem ic_8 : r_isControl 1473 = 1 := by
  unfold r_isControl
  simp +decide only [if_true, if_false]
theorem pp_8 (v : RS) (x : Int32) : ((phi v).1, (phi v).2.1, upd (phi v).2.2.1 (8 : Int32).toNatClampNeg x, (phi v).2.2.2.1, (phi v).2.2.2.2.1, (phi v).2.2.2.2.2) = phi (put8 v x) := by
  have e : upd (phi v).2.2.1 (8 : Int32).toNatClampNeg x = (phi (put8 v x)).2.2.1 := cmu_8 ..
  rw [e]
  rfl
theorem pi_8 {v : RS} (h : Inv v) (x : Int32) : Inv (put8 v (x &&& (-1))) := ⟨h.1, h.2.1, h.2.2.1, h.2.2.2.1, h.2.2.2.2.1, h.2.2.2.2.2⟩
theorem ps_8 {v : RS} (h : Inv v) : put8 v (vWRK v &&& (-1)) = v := by
  have e : vWRK v &&& (-1) = vWRK v := Int32.and_neg_one
  rw [e]
  rfl
theorem sr_8 (v : RS) : SlotR v 1473 8 := ⟨so_8, by decide, ic_8, by rw [ce_8]; rfl, fun x => by rw [pe_8]; exact pp_8 v _, fun h x => by rw [pe_8]; exact pi_8 h x, fun h x => by rw [pe_8]; exact h, fun h => by rw [pe_8, ce_8]; exact ps_8 h⟩
theorem rng (n : Int32) (h1 : ¬ n < 320) (h2 : n ≤ 323) : n = 320 ∨ n = 321 ∨ n = 322 ∨ n = 323 := by
  rw [Int32.lt_iff_toInt_lt] at h1
  rw [Int32.le_iff_toInt_le] at h2
  have h3 : n.toInt = 320 ∨ n.toInt = 321 ∨ n.toInt = 322 ∨ n.toInt = 323 := by
    have e1 : (320 : Int32).toInt = 320 := rfl
    have e2 : (323 : Int32).toInt = 323 := rfl
    omega
  rcases h3 with h | h | h | h
  · exact Or.inl (Int32.toInt_inj.mp h)
  · exact Or.inr (Or.inl (Int32.toInt_inj.mp h))
  · exact Or.inr (Or.inr (Or.inl (Int32.toInt_inj.mp h)))
  · exact Or.inr (Or.inr (Or.inr (Int32.toInt_inj.mp h)))
theorem slots (v : RS) (n : Int32) : (∃ k, SlotR v n k) ∨ (h_slotOf n = -1 ∧ r_isControl n = 0) := by
  by_cases c0 : n = 256
  · exact Or.inl ⟨0, by rw [c0]; exact sr_0 v⟩
  by_cases c1 : n = 261
  · exact Or.inl ⟨1, by rw [c1]; exact sr_1 v⟩
  by_cases c2 : n = 320
  · exact Or.inl ⟨2, by rw [c2]; exact sr_2 v⟩
  by_cases c3 : n = 321
  · exact Or.inl ⟨3, by rw [c3]; exact sr_3 v⟩
  by_cases c4 : n = 322
  · exact Or.inl ⟨4, by rw [c4]; exact sr_4 v⟩
  by_cases c5 : n = 323
  · exact Or.inl ⟨5, by rw [c5]; exact sr_5 v⟩
  by_cases c6 : n = 384
  · exact Or.inl ⟨6, by rw [c6]; exact sr_6 v⟩
  by_cases c7 : n = 1472
  · exact Or.inl ⟨7, by rw [c7]; exact sr_7 v⟩
  by_cases c8 : n = 1473
  · exact Or.inl ⟨8, by rw [c8]; exact sr_8 v⟩
  right
  constructor
  · unfold h_slotOf
    rw [hn_0, hn_1, hn_2, hn_3, hn_4, hn_5, hn_6, hn_7, hn_8, if_neg (Ne.symm c0), if_neg (Ne.symm c1), if_neg (Ne.symm c2), if_neg (Ne.symm c3), if_neg (Ne.symm c4), if_neg (Ne.symm c5), if_neg (Ne.symm c6), if_neg (Ne.symm c7), if_neg (Ne.symm c8)]
  · unfold r_isControl
    rw [if_neg c0, if_neg c1]
    by_cases h : n < 320
    · rw [if_pos h, if_neg c6, if_neg c7, if_neg c8]
    · rw [if_neg h]
      by_cases h2 : n ≤ 323
      · rcases rng n h h2 with q | q | q | q
        · exact absurd q c2
        · exact absurd q c3
        · exact absurd q c4
        · exact absurd q c5
      · rw [if_neg h2, if_neg c6, if_neg c7, if_neg c8]
theorem or0 (x : Int32) : x ||| 0 = x := un_inj (by rw [un_or]; exact Nat.or_zero _)
theorem an0 (x : Int32) : x &&& (0 ^^^ (-1)) = x := by
  rw [show (0 : Int32) ^^^ (-1) = -1 from by decide, Int32.and_neg_one]
theorem ch_0 (k x : Int32) (h : ¬ k = 1) : h_changed k x 0 = x := by
  unfold h_changed
  rw [if_neg h]
  by_cases c : k = 2
  · rw [if_pos c, or0]
  · rw [if_neg c, an0]
def exX (w f a : Int32) : Int32 := if f ≤ 4 then a else r_bits w 15 19
theorem ex_eq (v : RS) (w f D a : Int32) (hf : un f < 2147483648) (h4 : ¬ f = 4) (hc : ¬ r_isControl (r_bits w 20 31) = 0) (ha : r_bits w 15 19 = 0 → a = 0) (hs : r_putControl v (r_bits w 20 31) (r_controlOf v (r_bits w 20 31)) = v) : r_exchange v w f D a = r_set (r_putControl v (r_bits w 20 31) (h_changed (f &&& 3) (r_controlOf v (r_bits w 20 31)) (exX w f a))) D (r_controlOf v (r_bits w 20 31)) := by
  unfold r_exchange exX
  dsimp only
  rw [if_neg h4, if_neg hc]
  simp only [e_rem4 hf]
  by_cases c : f &&& 3 = 1
  · have e : ∀ x y, h_changed (f &&& 3) x y = y := fun x y => by unfold h_changed; rw [if_pos c]
    rw [e]
    by_cases d : f ≤ 4
    · rw [if_pos d, if_pos c, if_pos d]
    · rw [if_neg d, if_pos c, if_neg d]
  · by_cases z : r_bits w 15 19 = 0
    · have e : (if f ≤ 4 then a else r_bits w 15 19) = 0 := by
        by_cases d : f ≤ 4
        · rw [if_pos d]; exact ha z
        · rw [if_neg d]; exact z
      rw [e, ch_0 _ _ c, hs]
      simp only [if_neg c, if_pos z, ite_self]
    · have e : ∀ x y, h_changed (f &&& 3) x y = if f &&& 3 = 2 then x ||| y else x &&& (y ^^^ (-1)) := fun x y => by unfold h_changed; rw [if_neg c]
      rw [e]
      by_cases d : f ≤ 4
      · simp only [if_pos d, if_neg c, if_neg z]
        by_cases g : f &&& 3 = 2
        · simp only [if_pos g]
        · simp only [if_neg g]
      · simp only [if_neg d, if_neg c, if_neg z]
        by_cases g : f &&& 3 = 2
        · simp only [if_pos g]
        · simp only [if_neg g]
theorem hcc_eq (st : HS) (w : Int32) : h_changeControl st w = if h_fOf w = 4 then h_refuse st w else if 0 ≤ h_slotOf (jush w 20) then h_goOnWith (st.1, st.2.1, upd st.2.2.1 (h_slotOf (jush w 20)).toNatClampNeg (h_changed (h_fOf w &&& 3) (st.2.2.1 (h_slotOf (jush w 20)).toNatClampNeg) (if h_fOf w ≤ 4 then h_aOf st w else (jush w 15) &&& 31) &&& hBit (h_slotOf (jush w 20)).toNatClampNeg), st.2.2.2.1, st.2.2.2.2.1, st.2.2.2.2.2) w (st.2.2.1 (h_slotOf (jush w 20)).toNatClampNeg) else h_refuse st w := by
  unfold h_changeControl
  dsimp only
  by_cases d : h_fOf w ≤ 4
  · simp only [if_pos d]
  · simp only [if_neg d]
theorem L_exch (v : RS) (w : Int32) (hi : Inv v) (h : rdy v) : h_changeControl (phi v) w = fin (r_exchange v w (h_fOf w) (r_bits w 7 11) (h_aOf (phi v) w)) ∧ Inv (r_exchange v w (h_fOf w) (r_bits w 7 11) (h_aOf (phi v) w)) := by
  have hf := f_lt w
  rw [hcc_eq]
  by_cases q : h_fOf w = 4
  · have e : r_exchange v w (h_fOf w) (r_bits w 7 11) (h_aOf (phi v) w) = r_trap v 2 w := by unfold r_exchange; dsimp only; rw [if_pos q]
    rw [e, if_pos q]
    exact L_refuse v w hi
  · rw [if_neg q, ← e_N, ← e_A]
    rcases slots v (r_bits w 20 31) with ⟨k, s1, s2, s3, s4, s5, s6, s7, s8⟩ | ⟨s1, s2⟩
    · have ha : r_bits w 15 19 = 0 → h_aOf (phi v) w = 0 := fun z => by
        unfold h_aOf
        rw [← e_A, z]
        exact hi.2.1
      rw [ex_eq v w _ _ _ (by omega) q (by rw [s3]; decide) ha (s8 hi), s1, if_pos s2, s4, s5]
      exact L_goOnWith _ w _ (s6 hi _) (s7 h _)
    · have e : r_exchange v w (h_fOf w) (r_bits w 7 11) (h_aOf (phi v) w) = r_trap v 2 w := by unfold r_exchange; dsimp only; rw [if_neg q, if_pos s2]
      rw [e, s1, if_neg (by decide)]
      exact L_refuse v w hi
theorem un_M (w : Int32) : un (w &&& (-33521665)) = un w / 33554432 * 33554432 + un w % 32768 := by
  have e : w &&& (-33521665) = (w &&& (-33554432)) ||| (w &&& 32767) := by
    apply Int32.toBitVec_inj.mp
    rw [Int32.toBitVec_or, Int32.toBitVec_and, Int32.toBitVec_and, Int32.toBitVec_and]
    rw [show (-33521665 : Int32).toBitVec = (-33554432 : Int32).toBitVec ||| (32767 : Int32).toBitVec from by decide]
    apply BitVec.eq_of_getLsbD_eq
    intro i hi
    rw [BitVec.getLsbD_or, BitVec.getLsbD_and, BitVec.getLsbD_and, BitVec.getLsbD_and, BitVec.getLsbD_or]
    generalize w.toBitVec.getLsbD i = x
    cases x <;> simp
  rw [e, un_or, un_hi w _ 25 (by decide) (by decide), un_and w 32767 15 (by decide) rfl]
  exact or_addP 25 33554432 rfl (by omega) (by omega)
theorem fence (w : Int32) (ho : w &&& 127 = 115) (hf : h_fOf w = 0) : (w &&& (-33521665) = 301990003) = (h_gOf w = 9 ∧ r_bits w 7 11 = 0) := by
  have h1 : un (w &&& 127) = 115 := by rw [ho]; rfl
  have h2 : un (h_fOf w) = 0 := by rw [hf]; rfl
  rw [a_127] at h1
  unfold h_fOf at h2
  rw [a_7, j_12] at h2
  have e1 : (w &&& (-33521665) = 301990003) ↔ un (w &&& (-33521665)) = 301990003 := ⟨fun q => by rw [q]; rfl, fun q => un_inj q⟩
  have e2 : (h_gOf w = 9) ↔ un (h_gOf w) = 9 := ⟨fun q => by rw [q]; rfl, fun q => un_inj q⟩
  apply propext
  rw [e1, e2, z_un, un_M, u_7_11]
  unfold h_gOf
  rw [j_25]
  have := un_lt w
  omega
theorem L_sys (v : RS) (w : Int32) (ho : w &&& 127 = 115) (hi : Inv v) (h : rdy v) : h_performSystem (phi v) w = fin (r_system v w (h_fOf w) (r_bits w 7 11) (h_aOf (phi v) w)) ∧ Inv (r_system v w (h_fOf w) (r_bits w 7 11) (h_aOf (phi v) w)) := by
  have em : (phi v).2.2.2.2.1 = vMD v := rfl
  unfold h_performSystem r_system
  dsimp only
  rw [em]
  by_cases c1 : w = 115
  · rw [if_pos c1, if_pos c1]
    unfold h_call
    dsimp only
    rw [em]
    by_cases c : vMD v = 0
    · rw [if_pos c, if_pos c]
      exact L_trap v 8 0 hi
    · rw [if_neg c, if_neg c]
      exact ⟨L_goOn (setEN v 1) (en_rdy h 1), en_inv hi⟩
  · rw [if_neg c1, if_neg c1]
    by_cases c2 : w = 1048691
    · rw [if_pos c2, if_pos c2]
      exact L_trap v 3 (vPC v) hi
    · rw [if_neg c2, if_neg c2]
      by_cases c : vMD v = 0
      · rw [if_pos c, if_pos c]
        exact L_refuse v w hi
      · rw [if_neg c, if_neg c]
        by_cases c3 : w = 270532723
        · rw [if_pos c3, if_pos (show h_fOf w = 0 by rw [c3]; decide), if_pos c3]
          have e : (if vSTA v &&& 256 = 0 then setBack v 0 (vSTA v &&& 262144) else setBack v 1 (vSTA v &&& 262144)) = setBack v (if vSTA v &&& 256 = 0 then 0 else 1) (vSTA v &&& 262144) := by
            by_cases d : vSTA v &&& 256 = 0
            · rw [if_pos d, if_pos d]
            · rw [if_neg d, if_neg d]
          have := L_back v hi h
          rw [← e] at this
          exact this
        · simp only [if_neg c3]
          by_cases f0 : h_fOf w = 0
          · rw [if_pos f0, if_pos f0]
            by_cases c4 : w = 273678451
            · rw [if_pos c4, if_pos c4]
              exact ⟨L_goOn v h, hi⟩
            · rw [if_neg c4, if_neg c4, e_g]
              have hfe := fence w ho f0
              by_cases g : h_gOf w = 9
              · rw [if_pos g]
                by_cases d : r_bits w 7 11 = 0
                · rw [if_pos d, if_pos (hfe.mpr ⟨g, d⟩)]
                  exact ⟨L_goOn v h, hi⟩
                · rw [if_neg d, if_neg (fun q => d (hfe.mp q).2)]
                  exact L_refuse v w hi
              · rw [if_neg g, if_neg (fun q => g (hfe.mp q).1)]
                exact L_refuse v w hi
          · rw [if_neg f0, if_neg f0]
            exact L_exch v w hi h
