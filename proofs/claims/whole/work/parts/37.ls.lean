/-! loads and stores -/
theorem x8 (y : Int32) : ((y <<< ((24 : Int32) &&& 31)) >>> ((24 : Int32) &&& 31)) = if r_has (y &&& 255) 7 = 0 then y &&& 255 else (y &&& 255) - 256 := by
  have h1 : ((y <<< ((24 : Int32) &&& 31)) >>> ((24 : Int32) &&& 31)).toInt = (y <<< ((24 : Int32) &&& 31)).toInt >>> 24 := pk_shr _ _ 24 (by decide)
  have h2 := un_toInt ((y <<< ((24 : Int32) &&& 31)) >>> ((24 : Int32) &&& 31))
  have h3 : un (y <<< ((24 : Int32) &&& 31)) = un y * 16777216 % 4294967296 := un_shl y _ 24 (by decide)
  rw [h1, Int.shiftRight_eq_div_pow, un_int, h3] at h2
  have hy := un_lt y
  have h4 : r_has (y &&& 255) 7 = 0 ↔ un y / 128 % 2 = 0 := by
    rw [z_un, hs_7, un_nI (by omega), a_255]
    omega
  apply un_inj
  by_cases c : r_has (y &&& 255) 7 = 0
  · have c2 := h4.mp c
    rw [if_pos c, a_255]
    split at h2 <;> omega
  · have c2 := mt h4.mpr c
    rw [if_neg c, un_sub, a_255, show un (256 : Int32) = 256 from rfl]
    split at h2 <;> omega
theorem x16 (y : Int32) : ((y <<< ((16 : Int32) &&& 31)) >>> ((16 : Int32) &&& 31)) = if r_has (y &&& 65535) 15 = 0 then y &&& 65535 else (y &&& 65535) - 65536 := by
  have h1 : ((y <<< ((16 : Int32) &&& 31)) >>> ((16 : Int32) &&& 31)).toInt = (y <<< ((16 : Int32) &&& 31)).toInt >>> 16 := pk_shr _ _ 16 (by decide)
  have h2 := un_toInt ((y <<< ((16 : Int32) &&& 31)) >>> ((16 : Int32) &&& 31))
  have h3 : un (y <<< ((16 : Int32) &&& 31)) = un y * 65536 % 4294967296 := un_shl y _ 16 (by decide)
  rw [h1, Int.shiftRight_eq_div_pow, un_int, h3] at h2
  have hy := un_lt y
  have h4 : r_has (y &&& 65535) 15 = 0 ↔ un y / 32768 % 2 = 0 := by
    rw [z_un, hs_15, un_nI (by omega), a_65535]
    omega
  apply un_inj
  by_cases c : r_has (y &&& 65535) 15 = 0
  · have c2 := h4.mp c
    rw [if_pos c, a_65535]
    split at h2 <;> omega
  · have c2 := mt h4.mpr c
    rw [if_neg c, un_sub, a_65535, show un (65536 : Int32) = 65536 from rfl]
    split at h2 <;> omega
theorem bl8 (m a : Int32) : r_bits m (8 * r_bits a 0 1) ((8 * r_bits a 0 1 + 8) - 1) = jush m ((a &&& 3) <<< ((3 : Int32) &&& 31)) &&& 255 := un_inj (by
  rw [e_al, a_255]
  rcases al_cases a with h | h | h | h <;> rw [h]
  · rw [urb m _ _ 0 8 (by decide) (by decide) (by decide), un_jush m _ 0 (by decide)]
  · rw [urb m _ _ 8 8 (by decide) (by decide) (by decide), un_jush m _ 8 (by decide)]
  · rw [urb m _ _ 16 8 (by decide) (by decide) (by decide), un_jush m _ 16 (by decide)]
  · rw [urb m _ _ 24 8 (by decide) (by decide) (by decide), un_jush m _ 24 (by decide)])
theorem bl16 (m a : Int32) : r_bits m (8 * r_bits a 0 1) ((8 * r_bits a 0 1 + 16) - 1) = jush m ((a &&& 3) <<< ((3 : Int32) &&& 31)) &&& 65535 := un_inj (by
  rw [e_al, a_65535]
  rcases al_cases a with h | h | h | h <;> rw [h]
  · rw [urb m _ _ 0 16 (by decide) (by decide) (by decide), un_jush m _ 0 (by decide)]
  · rw [urb m _ _ 8 16 (by decide) (by decide) (by decide), un_jush m _ 8 (by decide)]
  · rw [urb m _ _ 16 16 (by decide) (by decide) (by decide), un_jush m _ 16 (by decide)]
  · rw [urb m _ _ 24 16 (by decide) (by decide) (by decide), un_jush m _ 24 (by decide)])
theorem bl32 (m a : Int32) : r_bits m (8 * r_bits a 0 1) ((8 * r_bits a 0 1 + 32) - 1) = jush m ((a &&& 3) <<< ((3 : Int32) &&& 31)) := un_inj (by
  rw [e_al]
  have hm := un_lt m
  rcases al_cases a with h | h | h | h <;> rw [h]
  · rw [urb m _ _ 0 32 (by decide) (by decide) (by decide), un_jush m _ 0 (by decide)]; omega
  · rw [urb m _ _ 8 32 (by decide) (by decide) (by decide), un_jush m _ 8 (by decide)]; omega
  · rw [urb m _ _ 16 32 (by decide) (by decide) (by decide), un_jush m _ 16 (by decide)]; omega
  · rw [urb m _ _ 24 32 (by decide) (by decide) (by decide), un_jush m _ 24 (by decide)]; omega)
theorem mem_of_lt {q : Int32} (h : un q < 262144) : ¬ h_isInMemory q = 0 := by
  rw [← e_isW]
  unfold r_isWord
  dsimp only
  have c : ¬ 0 ≤ lg_cmp (r_plain q) (262144 : Int64) := by
    rw [lg_cmp_ge, r_plain_n]
    show ¬ lN 262144 ≤ lN (un q)
    rw [pk_lLE (by decide) (by omega)]
    omega
  rw [if_neg c]
  decide
def rLd (v : RS) (X size D : Int32) (g : Int32 → Int32) : RS := if vTR (r_reach v X size 1).2 = 0 then r_set (r_reach v X size 1).2 D (g (jush (vME (r_reach v X size 1).2 ((r_reach v X size 1).1 / 4).toNatClampNeg) (((r_reach v X size 1).1 &&& 3) <<< ((3 : Int32) &&& 31)))) else (r_reach v X size 1).2
def hLd (st : HS) (w X size : Int32) (g : Int32 → Int32) : Int32 × HS := if 0 ≤ h_locateAligned st X 1 size then h_goOnWith st w (g (jush (st.1 (jush (h_locateAligned st X 1 size) 2).toNatClampNeg) (((h_locateAligned st X 1 size) &&& 3) <<< ((3 : Int32) &&& 31)))) else h_trap st ((-1) - h_locateAligned st X 1 size) X
theorem fa_rdy {v : RS} (h : rdy v) (F : Int32) : rdy (setFA v F) := h
theorem L_ldc (v : RS) (w X size : Int32) (g : Int32 → Int32) (hz : (r_bits X 0 1 - r_bits X 0 1 / size * size = 0) = (X &&& (size - 1) = 0)) (hi : Inv v) (h : rdy v) : hLd (phi v) w X size g = fin (rLd v X size (r_bits w 7 11) g) ∧ Inv (rLd v X size (r_bits w 7 11) g) := by
  have hr := L_reach v X size 1 (Or.inr (Or.inl rfl)) hz hi
  unfold hLd rLd
  generalize h_locateAligned (phi v) X 1 size = L at *
  rcases hr with ⟨F, h1, h2, h3⟩ | ⟨h1, q, u, h2, h3, h4, h5⟩
  · rw [h1, if_pos h2]
    dsimp only
    rw [fa_tr, if_pos h.1, e_ix (mem_of_lt h3)]
    exact L_goOnWith (setFA v F) w _ (fa_inv hi F) (fa_rdy h F)
  · rw [h2, if_neg h1]
    dsimp only
    rw [if_neg (by rw [h3]; decide), h4, fin_trap h3]
    exact ⟨rfl, h5⟩
theorem k81 : (8 : Int32) * 1 = 8 := by decide
theorem k82 : (8 : Int32) * 2 = 16 := by decide
theorem k84 : (8 : Int32) * 4 = 32 := by decide
theorem k7 : (8 : Int32) - 1 = 7 := by decide
theorem k15 : (16 : Int32) - 1 = 15 := by decide
theorem kp8 : (1 : Int32) <<< ((8 : Int32) &&& 31) = 256 := by decide
theorem kp16 : (1 : Int32) <<< ((16 : Int32) &&& 31) = 65536 := by decide
theorem se_0 (u : RS) (D m a : Int32) : (if r_has (r_bits m (8 * r_bits a 0 1) ((8 * r_bits a 0 1 + 8) - 1)) 7 = 0 then r_set u D (r_bits m (8 * r_bits a 0 1) ((8 * r_bits a 0 1 + 8) - 1)) else r_set u D (r_bits m (8 * r_bits a 0 1) ((8 * r_bits a 0 1 + 8) - 1) - 256)) = r_set u D (h_extend 0 (jush m ((a &&& 3) <<< ((3 : Int32) &&& 31)))) := by
  have e : h_extend 0 (jush m ((a &&& 3) <<< ((3 : Int32) &&& 31))) = (((jush m ((a &&& 3) <<< ((3 : Int32) &&& 31))) <<< ((24 : Int32) &&& 31)) >>> ((24 : Int32) &&& 31)) := rfl
  rw [e, x8, bl8]
  by_cases c : r_has (jush m ((a &&& 3) <<< ((3 : Int32) &&& 31)) &&& 255) 7 = 0
  · rw [if_pos c, if_pos c]
  · rw [if_neg c, if_neg c]
theorem se_1 (u : RS) (D m a : Int32) : (if r_has (r_bits m (8 * r_bits a 0 1) ((8 * r_bits a 0 1 + 16) - 1)) 15 = 0 then r_set u D (r_bits m (8 * r_bits a 0 1) ((8 * r_bits a 0 1 + 16) - 1)) else r_set u D (r_bits m (8 * r_bits a 0 1) ((8 * r_bits a 0 1 + 16) - 1) - 65536)) = r_set u D (h_extend 1 (jush m ((a &&& 3) <<< ((3 : Int32) &&& 31)))) := by
  have e : h_extend 1 (jush m ((a &&& 3) <<< ((3 : Int32) &&& 31))) = (((jush m ((a &&& 3) <<< ((3 : Int32) &&& 31))) <<< ((16 : Int32) &&& 31)) >>> ((16 : Int32) &&& 31)) := by
    unfold h_extend
    rw [if_neg (by decide), if_pos rfl]
  rw [e, x16, bl16]
  by_cases c : r_has (jush m ((a &&& 3) <<< ((3 : Int32) &&& 31)) &&& 65535) 15 = 0
  · rw [if_pos c, if_pos c]
  · rw [if_neg c, if_neg c]
theorem se_2 (y : Int32) : h_extend 2 y = y := by unfold h_extend; simp +decide only [if_true, if_false]
theorem se_4 (y : Int32) : h_extend 4 y = y &&& 255 := by unfold h_extend; simp +decide only [if_true, if_false]
theorem se_5 (y : Int32) : h_extend 5 y = y &&& 65535 := by unfold h_extend; simp +decide only [if_true, if_false]
theorem ld_0 (v : RS) (w D X : Int32) : r_load v w 0 D X = rLd v X 1 D (h_extend 0) := by
  unfold r_load rLd
  simp +decide only [if_true, if_false, k81, k7, kp8]
  rw [se_0]
theorem ld_1 (v : RS) (w D X : Int32) : r_load v w 1 D X = rLd v X 2 D (h_extend 1) := by
  unfold r_load rLd
  simp +decide only [if_true, if_false, k82, k15, kp16]
  rw [se_1]
theorem ld_2 (v : RS) (w D X : Int32) : r_load v w 2 D X = rLd v X 4 D (h_extend 2) := by
  unfold r_load rLd
  simp +decide only [if_true, if_false, k84]
  rw [bl32, se_2]
theorem ld_4 (v : RS) (w D X : Int32) : r_load v w 4 D X = rLd v X 1 D (h_extend 4) := by
  unfold r_load rLd
  simp +decide only [if_true, if_false, k81]
  rw [bl8, se_4]
theorem ld_5 (v : RS) (w D X : Int32) : r_load v w 5 D X = rLd v X 2 D (h_extend 5) := by
  unfold r_load rLd
  simp +decide only [if_true, if_false, k82]
  rw [bl16, se_5]
theorem hld_eq (st : HS) (w : Int32) (h3 : ¬ h_fOf w = 3) (h5 : h_fOf w ≤ 5) : h_load st w = hLd st w (h_aOf st w + h_iOf w) ((1 : Int32) <<< ((h_fOf w &&& 3) &&& 31)) (h_extend (h_fOf w)) := by
  unfold h_load hLd
  dsimp only
  rw [if_neg h3, if_pos h5]
theorem L_load (v : RS) (w : Int32) (hi : Inv v) (h : rdy v) : h_load (phi v) w = fin (r_load v w (h_fOf w) (r_bits w 7 11) (h_aOf (phi v) w + h_iOf w)) ∧ Inv (r_load v w (h_fOf w) (r_bits w 7 11) (h_aOf (phi v) w + h_iOf w)) := by
  rcases f_cases w with q | q | q | q | q | q | q | q
  · rw [hld_eq _ w (by rw [q]; decide) (by rw [q]; decide), q, ld_0, show (1 : Int32) <<< (((0 : Int32) &&& 3) &&& 31) = 1 from by decide]
    exact L_ldc v w _ 1 _ (sz_1 _) hi h
  · rw [hld_eq _ w (by rw [q]; decide) (by rw [q]; decide), q, ld_1, show (1 : Int32) <<< (((1 : Int32) &&& 3) &&& 31) = 2 from by decide]
    exact L_ldc v w _ 2 _ (sz_2 _) hi h
  · rw [hld_eq _ w (by rw [q]; decide) (by rw [q]; decide), q, ld_2, show (1 : Int32) <<< (((2 : Int32) &&& 3) &&& 31) = 4 from by decide]
    exact L_ldc v w _ 4 _ (sz_4 _) hi h
  · unfold h_load r_load
    simp +decide only [q, if_true, if_false]
    exact L_refuse v w hi
  · rw [hld_eq _ w (by rw [q]; decide) (by rw [q]; decide), q, ld_4, show (1 : Int32) <<< (((4 : Int32) &&& 3) &&& 31) = 1 from by decide]
    exact L_ldc v w _ 1 _ (sz_1 _) hi h
  · rw [hld_eq _ w (by rw [q]; decide) (by rw [q]; decide), q, ld_5, show (1 : Int32) <<< (((5 : Int32) &&& 3) &&& 31) = 2 from by decide]
    exact L_ldc v w _ 2 _ (sz_2 _) hi h
  · unfold h_load r_load
    simp +decide only [q, if_true, if_false]
    exact L_refuse v w hi
  · unfold h_load r_load
    simp +decide only [q, if_true, if_false]
    exact L_refuse v w hi
/-! stores -/
theorem bv_ins (p y h : BitVec 64) : (p - (p &&& h)) + (y &&& h) = (p &&& ~~~h) ||| (y &&& h) := by
  have d1 : (p &&& ~~~h) &&& (p &&& h) = 0#64 := by
    apply BitVec.eq_of_getLsbD_eq
    intro i hi
    rw [BitVec.getLsbD_and, BitVec.getLsbD_and, BitVec.getLsbD_and, BitVec.getLsbD_not, BitVec.getLsbD_zero]
    generalize p.getLsbD i = p1
    generalize h.getLsbD i = h1
    cases p1 <;> cases h1 <;> simp [hi]
  have d2 : (p &&& ~~~h) &&& (y &&& h) = 0#64 := by
    apply BitVec.eq_of_getLsbD_eq
    intro i hi
    rw [BitVec.getLsbD_and, BitVec.getLsbD_and, BitVec.getLsbD_and, BitVec.getLsbD_not, BitVec.getLsbD_zero]
    generalize p.getLsbD i = p1
    generalize h.getLsbD i = h1
    cases p1 <;> cases h1 <;> simp [hi]
  have e1 : p = (p &&& ~~~h) + (p &&& h) := by
    rw [BitVec.add_eq_or_of_and_eq_zero _ _ d1]
    apply BitVec.eq_of_getLsbD_eq
    intro i hi
    rw [BitVec.getLsbD_or, BitVec.getLsbD_and, BitVec.getLsbD_and, BitVec.getLsbD_not]
    generalize p.getLsbD i = p1
    generalize h.getLsbD i = h1
    cases p1 <;> cases h1 <;> simp [hi]
  have e2 : p - (p &&& h) = p &&& ~~~h := by
    have e3 : (p &&& ~~~h) + (p &&& h) - (p &&& h) = p &&& ~~~h := BitVec.add_sub_cancel _ _
    rw [← e1] at e3
    exact e3
  rw [e2, BitVec.add_eq_or_of_and_eq_zero _ _ d2]
theorem t32 (x : Int64) (i : Nat) (hi : i < 32) : x.toInt32.toBitVec.getLsbD i = x.toBitVec.getLsbD i := by
  show (x.toBitVec.signExtend 32).getLsbD i = _
  rw [BitVec.getLsbD_signExtend]
  simp [hi, show i < 64 by omega]
theorem m1b : ∀ i, i < 32 → (-1 : Int32).toBitVec.getLsbD i = true := by decide
theorem st_bits (P Y H : Int64) : ((P - (P &&& H)) + (Y &&& H)).toInt32 = (P.toInt32 &&& (H.toInt32 ^^^ (-1))) ||| (Y.toInt32 &&& H.toInt32) := by
  apply Int32.toBitVec_inj.mp
  apply BitVec.eq_of_getLsbD_eq
  intro i hi
  rw [t32 _ i hi]
  have e : ((P - (P &&& H)) + (Y &&& H)).toBitVec = (P.toBitVec &&& ~~~H.toBitVec) ||| (Y.toBitVec &&& H.toBitVec) := by
    rw [Int64.toBitVec_add, Int64.toBitVec_sub, Int64.toBitVec_and, Int64.toBitVec_and]
    exact bv_ins _ _ _
  rw [e, Int32.toBitVec_or, Int32.toBitVec_and, Int32.toBitVec_and, Int32.toBitVec_xor, BitVec.getLsbD_or, BitVec.getLsbD_or, BitVec.getLsbD_and, BitVec.getLsbD_and, BitVec.getLsbD_and, BitVec.getLsbD_and, BitVec.getLsbD_xor, BitVec.getLsbD_not, t32 _ i hi, t32 _ i hi, t32 _ i hi, m1b i hi]
  simp [show i < 64 by omega]
theorem pl_32 (m : Int32) : (r_plain m).toInt32 = m := by rw [r_plain_n, lN_i, ← n_of m]
theorem y_shl (b : Int32) (s : Int32) (k : Nat) (hk : k < 32) (hs : s = nI k) : (r_plain b <<< (s.toInt64 &&& 63)).toInt32 = b <<< (s &&& 31) := by
  subst hs
  rw [r_plain_n, wb_shl _ (by omega), lN_i]
  apply un_inj
  rw [un_nIm, and31, un_nI (by omega), Nat.mod_eq_of_lt hk, un_shl b _ k (sm32 k hk)]
theorem st_val (m a b : Int32) (f size : Int32) (hf : (f = 0 ∧ size = 1) ∨ (f = 1 ∧ size = 2) ∨ (f = 2 ∧ size = 4)) : ((r_plain m - (r_plain m &&& ((((1 : Int64) <<< ((8 * size).toInt64 &&& 63)) - 1) <<< ((8 * r_bits a 0 1).toInt64 &&& 63)))) + ((r_plain b <<< ((8 * r_bits a 0 1).toInt64 &&& 63)) &&& ((((1 : Int64) <<< ((8 * size).toInt64 &&& 63)) - 1) <<< ((8 * r_bits a 0 1).toInt64 &&& 63)))).toInt32 = (m &&& ((h_maskOf f <<< (((a &&& 3) <<< ((3 : Int32) &&& 31)) &&& 31)) ^^^ (-1))) ||| ((b <<< (((a &&& 3) <<< ((3 : Int32) &&& 31)) &&& 31)) &&& (h_maskOf f <<< (((a &&& 3) <<< ((3 : Int32) &&& 31)) &&& 31))) := by
  rw [st_bits, pl_32, e_al]
  have hm : ((((1 : Int64) <<< ((8 * size).toInt64 &&& 63)) - 1) <<< ((8 * (a &&& 3)).toInt64 &&& 63)).toInt32 = h_maskOf f <<< (((a &&& 3) <<< ((3 : Int32) &&& 31)) &&& 31) := by
    rcases hf with ⟨rfl, rfl⟩ | ⟨rfl, rfl⟩ | ⟨rfl, rfl⟩ <;> rcases al_cases a with h | h | h | h <;> rw [h] <;> decide
  have hy : (r_plain b <<< ((8 * (a &&& 3)).toInt64 &&& 63)).toInt32 = b <<< (((a &&& 3) <<< ((3 : Int32) &&& 31)) &&& 31) := by
    rcases al_cases a with h | h | h | h <;> rw [h]
    · exact y_shl b _ 0 (by decide) (by decide)
    · exact y_shl b _ 8 (by decide) (by decide)
    · exact y_shl b _ 16 (by decide) (by decide)
    · exact y_shl b _ 24 (by decide) (by decide)
  rw [hm, hy]
def setME (v : RS) (f : Nat → Int32) : RS := (v.1, f, v.2.2)
def nVal (m a b f : Int32) : Int32 := (m &&& ((h_maskOf f <<< (((a &&& 3) <<< ((3 : Int32) &&& 31)) &&& 31)) ^^^ (-1))) ||| ((b <<< (((a &&& 3) <<< ((3 : Int32) &&& 31)) &&& 31)) &&& (h_maskOf f <<< (((a &&& 3) <<< ((3 : Int32) &&& 31)) &&& 31)))
def rSt (v : RS) (X size b f : Int32) : RS := if vTR (r_reach v X size 2).2 = 0 then setME (r_reach v X size 2).2 (upd (vME (r_reach v X size 2).2) ((r_reach v X size 2).1 / 4).toNatClampNeg (nVal (vME (r_reach v X size 2).2 ((r_reach v X size 2).1 / 4).toNatClampNeg) (r_reach v X size 2).1 b f)) else (r_reach v X size 2).2
def hSt (st : HS) (X size b f : Int32) : Int32 × HS := if 0 ≤ h_locateAligned st X 2 size then h_goOn (upd st.1 (jush (h_locateAligned st X 2 size) 2).toNatClampNeg (nVal (st.1 (jush (h_locateAligned st X 2 size) 2).toNatClampNeg) (h_locateAligned st X 2 size) b f), st.2.1, st.2.2.1, st.2.2.2.1, st.2.2.2.2.1, st.2.2.2.2.2) else h_trap st ((-1) - h_locateAligned st X 2 size) X
theorem me_rdy {v : RS} (h : rdy v) (f : Nat → Int32) : rdy (setME v f) := h
theorem me_inv {v : RS} (h : Inv v) (f : Nat → Int32) : Inv (setME v f) := h
theorem L_stc (v : RS) (X size b f : Int32) (hz : (r_bits X 0 1 - r_bits X 0 1 / size * size = 0) = (X &&& (size - 1) = 0)) (hi : Inv v) (h : rdy v) : hSt (phi v) X size b f = fin (rSt v X size b f) ∧ Inv (rSt v X size b f) := by
  have hr := L_reach v X size 2 (Or.inr (Or.inr rfl)) hz hi
  unfold hSt rSt
  generalize h_locateAligned (phi v) X 2 size = L at *
  rcases hr with ⟨F, h1, h2, h3⟩ | ⟨h1, q, u, h2, h3, h4, h5⟩
  · rw [h1, if_pos h2]
    dsimp only
    rw [fa_tr, if_pos h.1, e_ix (mem_of_lt h3)]
    exact ⟨L_goOn (setME (setFA v F) _) (me_rdy (fa_rdy h F) _), me_inv (fa_inv hi F) _⟩
  · rw [h2, if_neg h1]
    dsimp only
    rw [if_neg (by rw [h3]; decide), h4, fin_trap h3]
    exact ⟨rfl, h5⟩
theorem st_0 (v : RS) (w X b : Int32) : r_store v w 0 X b = rSt v X 1 b 0 := by
  unfold r_store rSt nVal
  simp +decide only [if_true, if_false]
  rw [st_val _ _ _ 0 1 (Or.inl ⟨rfl, rfl⟩)]
  rfl
theorem st_1 (v : RS) (w X b : Int32) : r_store v w 1 X b = rSt v X 2 b 1 := by
  unfold r_store rSt nVal
  simp +decide only [if_true, if_false]
  rw [st_val _ _ _ 1 2 (Or.inr (Or.inl ⟨rfl, rfl⟩))]
  rfl
theorem st_2 (v : RS) (w X b : Int32) : r_store v w 2 X b = rSt v X 4 b 2 := by
  unfold r_store rSt nVal
  simp +decide only [if_true, if_false]
  rw [st_val _ _ _ 2 4 (Or.inr (Or.inr ⟨rfl, rfl⟩))]
  rfl
theorem hst_eq (st : HS) (w : Int32) (h5 : h_fOf w ≤ 2) : h_store st w = hSt st (h_aOf st w + h_sOf w) ((1 : Int32) <<< (h_fOf w &&& 31)) (h_bOf st w) (h_fOf w) := by
  unfold h_store hSt nVal
  dsimp only
  rw [if_pos h5]
theorem L_store (v : RS) (w : Int32) (hi : Inv v) (h : rdy v) : h_store (phi v) w = fin (r_store v w (h_fOf w) (h_aOf (phi v) w + h_sOf w) (h_bOf (phi v) w)) ∧ Inv (r_store v w (h_fOf w) (h_aOf (phi v) w + h_sOf w) (h_bOf (phi v) w)) := by
  rcases f_cases w with q | q | q | q | q | q | q | q
  · rw [hst_eq _ w (by rw [q]; decide), q, st_0, show (1 : Int32) <<< ((0 : Int32) &&& 31) = 1 from by decide]
    exact L_stc v _ 1 _ _ (sz_1 _) hi h
  · rw [hst_eq _ w (by rw [q]; decide), q, st_1, show (1 : Int32) <<< ((1 : Int32) &&& 31) = 2 from by decide]
    exact L_stc v _ 2 _ _ (sz_2 _) hi h
  · rw [hst_eq _ w (by rw [q]; decide), q, st_2, show (1 : Int32) <<< ((2 : Int32) &&& 31) = 4 from by decide]
    exact L_stc v _ 4 _ _ (sz_4 _) hi h
  all_goals
    unfold h_store r_store
    simp +decide only [q, if_true, if_false]
    exact L_refuse v w hi
