/-! where an address lies: both translate alike -/
def setFA (v : RS) (x : Int32) : RS := (v.1, v.2.1, v.2.2.1, v.2.2.2.1, v.2.2.2.2.1, v.2.2.2.2.2.1, v.2.2.2.2.2.2.1, v.2.2.2.2.2.2.2.1, v.2.2.2.2.2.2.2.2.1, v.2.2.2.2.2.2.2.2.2.1, v.2.2.2.2.2.2.2.2.2.2.1, v.2.2.2.2.2.2.2.2.2.2.2.1, v.2.2.2.2.2.2.2.2.2.2.2.2.1, v.2.2.2.2.2.2.2.2.2.2.2.2.2.1, v.2.2.2.2.2.2.2.2.2.2.2.2.2.2.1, v.2.2.2.2.2.2.2.2.2.2.2.2.2.2.2.1, v.2.2.2.2.2.2.2.2.2.2.2.2.2.2.2.2.1, x)
theorem fa_phi (v : RS) (x : Int32) : phi (setFA v x) = phi v := rfl
theorem fa_inv {v : RS} (h : Inv v) (x : Int32) : Inv (setFA v x) := h
theorem fa_fa (v : RS) (x : Int32) : vFA (setFA v x) = x := rfl
theorem fa_tr (v : RS) (x : Int32) : vTR (setFA v x) = vTR v := rfl
theorem fa_lets (v : RS) (x e how p : Int32) : r_lets (setFA v x) e how p = r_lets v e how p := by
  unfold r_lets
  rfl
def tEnd (v : RS) (q how : Int32) : Int32 × RS := if r_isWord q = 0 then (q, setFA v (r_accessCause how)) else (q, setFA v (-1))
def tBig (v : RS) (e a how : Int32) : Int32 × RS := if r_lets (setFA v (-1)) e how 1 = 0 then (0, setFA v (r_pageCause how)) else tEnd v (((r_bits e 10 31 * 4096) + r_bits a 0 11) + (4096 * r_bits a 12 21)) how
def tSmall (v : RS) (e a how : Int32) : Int32 × RS := if r_lets (setFA v (-1)) e how 0 = 0 then (0, setFA v (r_pageCause how)) else tEnd v (((r_bits e 10 31 * 4096) + r_bits a 0 11) + 0) how
def tTwo (v : RS) (e a how : Int32) : Int32 × RS := if r_isWord ((r_bits e 10 31 * 4096) + (4 * r_bits a 12 21)) = 0 then (0, setFA v (r_accessCause how)) else tSmall v (vME v (((r_bits e 10 31 * 4096) + (4 * r_bits a 12 21)) / 4).toNatClampNeg) a how
def tOne (v : RS) (e a how : Int32) : Int32 × RS := if r_has e 0 = 0 then tBig v e a how else if r_bits e 1 3 = 0 then tTwo v e a how else tBig v e a how
set_option maxHeartbeats 4000000 in
theorem rt_eq (v : RS) (a how : Int32) : r_translated v a how = if r_has (vTAB v) 31 = 0 then tEnd v a how else if r_isWord ((r_bits (vTAB v) 0 21 * 4096) + (4 * r_bits a 22 31)) = 0 then (0, setFA v (r_accessCause how)) else tOne v (vME v (((r_bits (vTAB v) 0 21 * 4096) + (4 * r_bits a 22 31)) / 4).toNatClampNeg) a how := by
  unfold r_translated tOne tTwo tSmall tBig tEnd setFA
  rfl
def hEnd (q how : Int32) : Int32 := if h_isInMemory q = 0 then (-1) - h_accessCause how else q
def hBig (st : HS) (e a how : Int32) : Int32 := if h_frameOf e &&& 4194303 = 0 then (if h_permits st e how = 0 then (-1) - h_pageCause how else hEnd (h_frameOf e + (a &&& 4194303)) how) else (-1) - h_pageCause how
def hSmall (st : HS) (e a how : Int32) : Int32 := if h_frameOf e &&& 4095 = 0 then (if h_permits st e how = 0 then (-1) - h_pageCause how else hEnd (h_frameOf e + (a &&& 4095)) how) else (-1) - h_pageCause how
def hTwo (st : HS) (e a how : Int32) : Int32 := if h_isInMemory (h_frameOf e + (((jush a 12) &&& 1023) <<< ((2 : Int32) &&& 31))) = 0 then (-1) - h_accessCause how else hSmall st (st.1 (jush (h_frameOf e + (((jush a 12) &&& 1023) <<< ((2 : Int32) &&& 31))) 2).toNatClampNeg) a how
def hOne (st : HS) (e a how : Int32) : Int32 := if e &&& 15 = 1 then hTwo st e a how else hBig st e a how
set_option maxHeartbeats 4000000 in
theorem hl_eq (st : HS) (a how : Int32) : h_locate st a how = if 0 ≤ st.2.2.1 (6 : Int32).toNatClampNeg then hEnd a how else if h_isInMemory ((st.2.2.1 (6 : Int32).toNatClampNeg <<< ((12 : Int32) &&& 31)) + ((jush a 22) <<< ((2 : Int32) &&& 31))) = 0 then (-1) - h_accessCause how else hOne st (st.1 (jush ((st.2.2.1 (6 : Int32).toNatClampNeg <<< ((12 : Int32) &&& 31)) + ((jush a 22) <<< ((2 : Int32) &&& 31))) 2).toNatClampNeg) a how := by
  unfold h_locate hOne hTwo hSmall hBig hEnd
  rfl
def LocR (v : RS) (res : Int32) (z : Int32 × RS) : Prop := ∃ q F, z = (q, setFA v F) ∧ ((F = -1 ∧ un q < 262144 ∧ res = q) ∨ (un F < 16 ∧ res = (-1) - F))
theorem acc_eq (how : Int32) : h_accessCause how = r_accessCause how := rfl
theorem pag_eq (how : Int32) : h_pageCause how = r_pageCause how := rfl
theorem acc_lt (how : Int32) : un (r_accessCause how) < 16 := by unfold r_accessCause; split; decide; split <;> decide
theorem pag_lt (how : Int32) : un (r_pageCause how) < 16 := by unfold r_pageCause; split; decide; split <;> decide
theorem mem_lt {q : Int32} (h : ¬ h_isInMemory q = 0) : un q < 262144 := by
  rw [← e_isW] at h
  unfold r_isWord at h
  dsimp only at h
  by_cases c : 0 ≤ lg_cmp (r_plain q) (262144 : Int64)
  · rw [if_pos c] at h; exact absurd rfl h
  · rw [lg_cmp_ge, r_plain_n] at c
    have hq := un_lt q
    have c2 : ¬ lN 262144 ≤ lN (un q) := c
    rw [pk_lLE (by decide) (by omega)] at c2
    omega
theorem lr_acc (v : RS) (q how : Int32) : LocR v ((-1) - h_accessCause how) (q, setFA v (r_accessCause how)) := ⟨q, _, rfl, Or.inr ⟨acc_lt how, rfl⟩⟩
theorem lr_pag (v : RS) (q how : Int32) : LocR v ((-1) - h_pageCause how) (q, setFA v (r_pageCause how)) := ⟨q, _, rfl, Or.inr ⟨pag_lt how, rfl⟩⟩
theorem lr_end (v : RS) (q how : Int32) : LocR v (hEnd q how) (tEnd v q how) := by
  unfold hEnd tEnd
  rw [e_isW]
  by_cases c : h_isInMemory q = 0
  · rw [if_pos c, if_pos c]; exact lr_acc v q how
  · rw [if_neg c, if_neg c]; exact ⟨q, _, rfl, Or.inl ⟨rfl, mem_lt c, rfl⟩⟩
theorem lr_big (v : RS) (e a how : Int32) (hh : how = 0 ∨ how = 1 ∨ how = 2) : LocR v (hBig (phi v) e a how) (tBig v e a how) := by
  unfold hBig tBig
  rw [fa_lets, lets_first, L_perm v e how hh, ad_4]
  by_cases c : r_bits e 10 19 = 0
  · rw [if_pos ((fr_l e).mpr c), if_pos c]
    by_cases d : r_lets v e how 0 = 0
    · rw [if_pos d, if_pos d]; exact lr_pag v 0 how
    · rw [if_neg d, if_neg d]; exact lr_end v _ how
  · rw [if_neg (fun q => c ((fr_l e).mp q)), if_neg c, if_pos rfl]; exact lr_pag v 0 how
theorem lr_small (v : RS) (e a how : Int32) (hh : how = 0 ∨ how = 1 ∨ how = 2) : LocR v (hSmall (phi v) e a how) (tSmall v e a how) := by
  unfold hSmall tSmall
  rw [fa_lets, L_perm v e how hh, ad_3, fr_s, if_pos rfl]
  by_cases d : r_lets v e how 0 = 0
  · rw [if_pos d, if_pos d]; exact lr_pag v 0 how
  · rw [if_neg d, if_neg d]; exact lr_end v _ how
theorem lr_two (v : RS) (e a how : Int32) (hh : how = 0 ∨ how = 1 ∨ how = 2) : LocR v (hTwo (phi v) e a how) (tTwo v e a how) := by
  unfold hTwo tTwo
  rw [ad_2, e_isW]
  by_cases c : h_isInMemory ((r_bits e 10 31 * 4096) + (4 * r_bits a 12 21)) = 0
  · rw [if_pos c, if_pos c]; exact lr_acc v 0 how
  · rw [if_neg c, if_neg c, e_ix c]; exact lr_small v _ a how hh
theorem lr_one (v : RS) (e a how : Int32) (hh : how = 0 ∨ how = 1 ∨ how = 2) : LocR v (hOne (phi v) e a how) (tOne v e a how) := by
  unfold hOne tOne
  by_cases c : r_has e 0 = 0
  · rw [if_neg (fun q => ((kd e).mp q).1 c), if_pos c]; exact lr_big v e a how hh
  · rw [if_neg c]
    by_cases d : r_bits e 1 3 = 0
    · rw [if_pos ((kd e).mpr ⟨c, d⟩), if_pos d]; exact lr_two v e a how hh
    · rw [if_neg (fun q => d ((kd e).mp q).2), if_neg d]; exact lr_big v e a how hh
theorem L_loc (v : RS) (a how : Int32) (hh : how = 0 ∨ how = 1 ∨ how = 2) : LocR v (h_locate (phi v) a how) (r_translated v a how) := by
  have h6 : (phi v).2.2.1 (6 : Int32).toNatClampNeg = vTAB v := rfl
  rw [rt_eq, hl_eq, h6, ad_1, e_isW]
  by_cases c : 0 ≤ vTAB v
  · rw [if_pos c, if_pos ((tb31 _).mpr c)]; exact lr_end v a how
  · rw [if_neg c, if_neg (fun q => c ((tb31 _).mp q))]
    by_cases d : h_isInMemory ((r_bits (vTAB v) 0 21 * 4096) + (4 * r_bits a 22 31)) = 0
    · rw [if_pos d, if_pos d]; exact lr_acc v 0 how
    · rw [if_neg d, if_neg d, e_ix d]; exact lr_one v _ a how hh
theorem m1m (F : Int32) : (-1) - ((-1) - F) = F := un_inj (by
  rw [un_sub, un_sub, show un (-1 : Int32) = 4294967295 from rfl]
  have := un_lt F
  omega)
theorem m1n {F : Int32} (h : un F < 16) : ¬ 0 ≤ (-1) - F := by
  rw [nn_un, un_sub, show un (-1 : Int32) = 4294967295 from rfl]
  omega
def misC (how : Int32) : Int32 := if how = 0 then 0 else if how = 1 then 4 else 6
theorem mis_eq (how : Int32) : h_misalignedCause how = misC how := rfl
theorem mis_lt (how : Int32) : un (misC how) < 16 := by unfold misC; split; decide; split <;> decide
theorem reach_eq (v : RS) (a size how : Int32) : r_reach v a size how = if r_bits a 0 1 - r_bits a 0 1 / size * size = 0 then (if vFA (r_translated v a how).2 < 0 then ((r_translated v a how).1, (r_translated v a how).2) else ((r_translated v a how).1, r_trap (r_translated v a how).2 (vFA (r_translated v a how).2) a)) else (0, r_trap v (misC how) a) := by
  unfold r_reach misC
  dsimp only
  by_cases c : how = 0
  · simp only [if_pos c]
  · by_cases d : how = 1
    · simp only [if_neg c, if_pos d]
    · simp only [if_neg c, if_neg d]
def ReachR (v : RS) (a L : Int32) (z : Int32 × RS) : Prop := (∃ F, z = (L, setFA v F) ∧ 0 ≤ L ∧ un L < 262144) ∨ (¬ 0 ≤ L ∧ ∃ q u, z = (q, u) ∧ vTR u = 1 ∧ h_trap (phi v) ((-1) - L) a = ((0 : Int32), phi u) ∧ Inv u)
theorem L_reach (v : RS) (a size how : Int32) (hh : how = 0 ∨ how = 1 ∨ how = 2) (hz : (r_bits a 0 1 - r_bits a 0 1 / size * size = 0) = (a &&& (size - 1) = 0)) (hi : Inv v) : ReachR v a (h_locateAligned (phi v) a how size) (r_reach v a size how) := by
  rw [reach_eq]
  unfold h_locateAligned
  dsimp only
  by_cases c : a &&& (size - 1) = 0
  · rw [if_pos c, if_pos (hz.mpr c)]
    obtain ⟨q, F, h1, h2⟩ := L_loc v a how hh
    rw [h1]
    dsimp only
    rw [fa_fa]
    rcases h2 with ⟨e1, e2, e3⟩ | ⟨e1, e2⟩
    · rw [if_pos (by rw [e1]; decide)]
      exact Or.inl ⟨F, by rw [e3], by rw [e3, nn_un]; omega, by rw [e3]; exact e2⟩
    · rw [if_neg (by rw [neg_un]; omega), e2]
      refine Or.inr ⟨m1n e1, q, _, rfl, r_trapT _ _ _, ?_⟩
      rw [m1m]
      exact L_trap0 (setFA v F) F a (fa_inv hi F)
  · rw [if_neg c, if_neg (fun q => c (hz.mp q)), mis_eq]
    refine Or.inr ⟨m1n (mis_lt how), 0, _, rfl, r_trapT _ _ _, ?_⟩
    rw [m1m]
    exact L_trap0 v _ a hi
theorem al_cases (a : Int32) : a &&& 3 = 0 ∨ a &&& 3 = 1 ∨ a &&& 3 = 2 ∨ a &&& 3 = 3 := by
  have e := a_3 a
  have h : un a % 4 = 0 ∨ un a % 4 = 1 ∨ un a % 4 = 2 ∨ un a % 4 = 3 := by omega
  rcases h with h | h | h | h
  · exact Or.inl (un_inj (by rw [e, h]; rfl))
  · exact Or.inr (Or.inl (un_inj (by rw [e, h]; rfl)))
  · exact Or.inr (Or.inr (Or.inl (un_inj (by rw [e, h]; rfl))))
  · exact Or.inr (Or.inr (Or.inr (un_inj (by rw [e, h]; rfl))))
theorem and1_3 (a : Int32) : a &&& 1 = (a &&& 3) &&& 1 := by rw [Int32.and_assoc]; rfl
theorem and0 (a : Int32) : a &&& 0 = (a &&& 3) &&& 0 := by rw [Int32.and_assoc]; rfl
theorem sz_1 (a : Int32) : (r_bits a 0 1 - r_bits a 0 1 / 1 * 1 = 0) = (a &&& (1 - 1) = 0) := by
  rw [e_al, show (1 - 1 : Int32) = 0 from by decide, and0]
  rcases al_cases a with h | h | h | h <;> rw [h] <;> exact propext (by decide)
theorem sz_2 (a : Int32) : (r_bits a 0 1 - r_bits a 0 1 / 2 * 2 = 0) = (a &&& (2 - 1) = 0) := by
  rw [e_al, show (2 - 1 : Int32) = 1 from by decide, and1_3]
  rcases al_cases a with h | h | h | h <;> rw [h] <;> exact propext (by decide)
theorem sz_4 (a : Int32) : (r_bits a 0 1 - r_bits a 0 1 / 4 * 4 = 0) = (a &&& (4 - 1) = 0) := by
  rw [e_al, show (4 - 1 : Int32) = 3 from by decide]
  rcases al_cases a with h | h | h | h <;> rw [h] <;> exact propext (by decide)
