/-! steps -/
def cdW (v : RS) : RS := if vWRK v = -1 then v else setWRK v (vWRK v - 1)
def cdT (v : RS) : RS := if vTUR v = -1 then v else setTUR v (vTUR v - 1)
theorem L_cdW (v : RS) : h_countDown (phi v) 8 = phi (cdW v) := by
  have e8 : (phi v).2.2.1 (8 : Int32).toNatClampNeg = vWRK v := rfl
  unfold h_countDown cdW
  rw [e8]
  by_cases c : vWRK v = -1
  · rw [if_pos c, if_pos c]
  · rw [if_neg c, if_neg c]
    exact pp_8 v _
theorem L_cdT (v : RS) : h_countDown (phi v) 7 = phi (cdT v) := by
  have e7 : (phi v).2.2.1 (7 : Int32).toNatClampNeg = vTUR v := rfl
  unfold h_countDown cdT
  rw [e7]
  by_cases c : vTUR v = -1
  · rw [if_pos c, if_pos c]
  · rw [if_neg c, if_neg c]
    exact pp_7 v _
theorem cdW_inv {v : RS} (h : Inv v) : Inv (cdW v) := by
  unfold cdW
  by_cases c : vWRK v = -1
  · rw [if_pos c]; exact h
  · rw [if_neg c]; exact h
theorem cdT_inv {v : RS} (h : Inv v) : Inv (cdT v) := by
  unfold cdT
  by_cases c : vTUR v = -1
  · rw [if_pos c]; exact h
  · rw [if_neg c]; exact h
theorem pc_inv {v : RS} (h : Inv v) (x : Int32) : Inv (setPC v x) := h
/-- what a step does behind the fetch -/
def rAft (u : RS) : RS := if vTR u = 0 then setPC u (vNX u) else u
def rAftU (u : RS) : RS := if vTR u = 0 then cdT (cdW (setPC u (vNX u))) else u
def rDo (z : Int32 × RS) : RS := r_perform (setNX z.2 (vPC z.2 + 4)) (vME z.2 (z.1 / 4).toNatClampNeg)
theorem aftU_eq (u : RS) : (if vTR u = 0 then (if vWRK u = -1 then (if vTUR u = -1 then setPC u (vNX u) else setTUR (setPC u (vNX u)) (vTUR u - 1)) else (if vTUR u = -1 then setWRK (setPC u (vNX u)) (vWRK u - 1) else setTUR (setWRK (setPC u (vNX u)) (vWRK u - 1)) (vTUR u - 1))) else u) = rAftU u := by
  unfold rAftU cdT cdW
  have e1 : vWRK (setPC u (vNX u)) = vWRK u := rfl
  have e2 : vTUR (setPC u (vNX u)) = vTUR u := rfl
  have e3 : ∀ x, vTUR (setWRK (setPC u (vNX u)) x) = vTUR u := fun x => rfl
  by_cases t : vTR u = 0
  · rw [if_pos t, if_pos t]
    by_cases a : vWRK u = -1
    · rw [if_pos a, e1, if_pos a, e2]
    · rw [if_neg a, e1, if_neg a, e3]
  · rw [if_neg t, if_neg t]
set_option maxHeartbeats 4000000 in
theorem step_eq (v : RS) : r_step v = if vMD v = 0 then (if vWRK v = 0 then r_trap (setTR v 0) 24 0 else if vTUR v = 0 then r_trap (setTR v 0) (-2147483643) 0 else if vTR (r_reach (setTR v 0) (vPC v) 4 0).2 = 0 then rAftU (rDo (r_reach (setTR v 0) (vPC v) 4 0)) else (r_reach (setTR v 0) (vPC v) 4 0).2) else (if vTR (r_reach (setTR v 0) (vPC v) 4 0).2 = 0 then rAft (rDo (r_reach (setTR v 0) (vPC v) 4 0)) else (r_reach (setTR v 0) (vPC v) 4 0).2) := by
  rw [← aftU_eq]
  unfold r_step rAft rDo setTR setNX setPC setTUR setWRK
  rfl
theorem tr_phi (v : RS) (x : Int32) : phi (setTR v x) = phi v := rfl
theorem tr_inv {v : RS} (h : Inv v) (x : Int32) : Inv (setTR v x) := h
theorem aft (u : RS) (hi : Inv u) : (fin u).2 = phi (rAft u) ∧ Inv (rAft u) := by
  unfold fin rAft
  by_cases t : vTR u = 0
  · rw [if_pos t, if_pos t]; exact ⟨rfl, pc_inv hi _⟩
  · rw [if_neg t, if_neg t]; exact ⟨rfl, hi⟩
theorem aftU (u : RS) (hi : Inv u) : (if (fin u).1 = 0 then (fin u).2 else h_countDown (h_countDown (fin u).2 8) 7) = phi (rAftU u) ∧ Inv (rAftU u) := by
  unfold fin rAftU
  by_cases t : vTR u = 0
  · rw [if_pos t, if_pos t]
    refine ⟨?_, cdT_inv (cdW_inv (pc_inv hi _))⟩
    dsimp only
    rw [if_neg (by decide)]
    rw [L_cdW, L_cdT]
  · rw [if_neg t, if_neg t]
    exact ⟨if_pos rfl, hi⟩
theorem hdo0 (v u : RS) (m : Int32) (hu : phi u = phi v) (hi : Inv u) (hr : rdy u) : h_perform (phi v) m = fin (r_perform u m) ∧ Inv (r_perform u m) := by
  rw [← hu]
  exact L_perform u m hi hr
theorem hdo (v : RS) (L F : Int32) (hi : Inv v) (h3 : un L < 262144) : h_perform (phi v) (vME v (jush L 2).toNatClampNeg) = fin (rDo (L, setFA (setTR v 0) F)) ∧ Inv (rDo (L, setFA (setTR v 0) F)) := by
  have e : rDo (L, setFA (setTR v 0) F) = r_perform (setNX (setFA (setTR v 0) F) (vPC v + 4)) (vME v (L / 4).toNatClampNeg) := by
    unfold rDo
    rfl
  rw [e, e_ix (mem_of_lt h3)]
  have h1 : phi (setNX (setFA (setTR v 0) F) (vPC v + 4)) = phi v := rfl
  have h2 : Inv (setNX (setFA (setTR v 0) F) (vPC v + 4)) := hi
  have h4 : rdy (setNX (setFA (setTR v 0) F) (vPC v + 4)) := ⟨rfl, rfl⟩
  exact hdo0 v (setNX (setFA (setTR v 0) F) (vPC v + 4)) _ h1 h2 h4
theorem L_step (v : RS) (hi : Inv v) : h_step (phi v) = phi (r_step v) ∧ Inv (r_step v) := by
  have em : (phi v).2.2.2.2.1 = vMD v := rfl
  have e8 : (phi v).2.2.1 (8 : Int32).toNatClampNeg = vWRK v := rfl
  have e7 : (phi v).2.2.1 (7 : Int32).toNatClampNeg = vTUR v := rfl
  have ep : (phi v).2.2.2.1 = vPC v := rfl
  have e1 : (phi v).1 = vME v := rfl
  have hr := L_reach (setTR v 0) (vPC v) 4 0 (Or.inl rfl) (sz_4 _) (tr_inv hi 0)
  rw [tr_phi] at hr
  rw [step_eq]
  unfold h_step
  dsimp only
  rw [em, e8, e7, ep, e1]
  generalize h_locateAligned (phi v) (vPC v) 0 4 = L at *
  by_cases m : vMD v = 0
  · rw [if_pos m, if_pos m]
    by_cases c8 : vWRK v = 0
    · rw [if_pos c8, if_pos c8]
      have q := L_trap0 (setTR v 0) 24 0 (tr_inv hi 0)
      rw [tr_phi] at q
      rw [q.1]
      exact ⟨rfl, q.2⟩
    · rw [if_neg c8, if_neg c8]
      by_cases c7 : vTUR v = 0
      · rw [if_pos c7, if_pos c7]
        have q := L_trap0 (setTR v 0) (-2147483643) 0 (tr_inv hi 0)
        rw [tr_phi] at q
        rw [q.1]
        exact ⟨rfl, q.2⟩
      · rw [if_neg c7, if_neg c7]
        rcases hr with ⟨F, h1, h2, h3⟩ | ⟨h1, q, u, h2, h3, h4, h5⟩
        · rw [h1, if_pos h2, if_pos (show vTR ((L, setFA (setTR v 0) F) : Int32 × RS).2 = 0 from rfl)]
          obtain ⟨g1, g2⟩ := hdo v L F hi h3
          rw [g1]
          exact aftU _ g2
        · rw [tr_phi] at h4
          rw [h2, if_neg h1, h4, if_neg (show ¬ vTR ((q, u) : Int32 × RS).2 = 0 by show ¬ vTR u = 0; rw [h3]; decide)]
          exact ⟨rfl, h5⟩
  · rw [if_neg m, if_neg m]
    rcases hr with ⟨F, h1, h2, h3⟩ | ⟨h1, q, u, h2, h3, h4, h5⟩
    · rw [h1, if_pos h2, if_pos (show vTR ((L, setFA (setTR v 0) F) : Int32 × RS).2 = 0 from rfl)]
      obtain ⟨g1, g2⟩ := hdo v L F hi h3
      rw [g1, ite_self]
      exact aft _ g2
    · rw [tr_phi] at h4
      rw [h2, if_neg h1, h4, if_neg (show ¬ vTR ((q, u) : Int32 × RS).2 = 0 by show ¬ vTR u = 0; rw [h3]; decide)]
      exact ⟨rfl, h5⟩
theorem L_go : ∀ (n : Nat) (most k : Int32) (v : RS), Inv v → h_go n most k (phi v) = ((r_go n most k v).1, phi (r_go n most k v).2) ∧ Inv (r_go n most k v).2
  | 0, _, k, v, hi => ⟨rfl, hi⟩
  | n + 1, most, k, v, hi => by
    have ee : (phi v).2.2.2.2.2 = vEN v := rfl
    unfold h_go r_go
    rw [ee]
    by_cases c : most ≤ k
    · rw [if_pos c, if_pos c]; exact ⟨rfl, hi⟩
    · rw [if_neg c, if_neg c]
      by_cases d : vEN v = 0
      · rw [if_pos d, if_pos d]
        obtain ⟨h1, h2⟩ := L_step v hi
        rw [h1]
        exact L_go n most (k + 1) (r_step v) h2
      · rw [if_neg d, if_neg d]; exact ⟨rfl, hi⟩
