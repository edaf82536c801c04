def runS (v : RS) : RS := ((0 : Int32), v.2.1, v.2.2.1, v.2.2.2.1, v.2.2.2.2.1, v.2.2.2.2.2.1, v.2.2.2.2.2.2.1, v.2.2.2.2.2.2.2.1, v.2.2.2.2.2.2.2.2.1, v.2.2.2.2.2.2.2.2.2.1, v.2.2.2.2.2.2.2.2.2.2.1, v.2.2.2.2.2.2.2.2.2.2.2.1, v.2.2.2.2.2.2.2.2.2.2.2.2.1, v.2.2.2.2.2.2.2.2.2.2.2.2.2.1, (0 : Int32), v.2.2.2.2.2.2.2.2.2.2.2.2.2.2.2.1, v.2.2.2.2.2.2.2.2.2.2.2.2.2.2.2.2.1, v.2.2.2.2.2.2.2.2.2.2.2.2.2.2.2.2.2)
set_option maxHeartbeats 40000 in
theorem run_pre (v : RS) (hi : Inv (setTH v 0)) : Inv (runS v) := by
  obtain ⟨th, me, re, pc, md, sta, vec, scr, bk, cau, val, tab, tur, wrk, en, tr, nx, fa⟩ := v
  unfold Inv setTH at hi
  unfold Inv runS
  dsimp only [vMD, vRE, vSTA, vVEC, vBK, vEN, vTH] at hi ⊢
  exact ⟨hi.1, hi.2.1, hi.2.2.1, hi.2.2.2.1, hi.2.2.2.2.1, Or.inl rfl, rfl⟩
set_option maxHeartbeats 40000 in
theorem run_phi (v : RS) : ((phi v).1, (phi v).2.1, (phi v).2.2.1, (phi v).2.2.2.1, (phi v).2.2.2.2.1, (0 : Int32)) = phi (runS v) := by
  obtain ⟨th, me, re, pc, md, sta, vec, scr, bk, cau, val, tab, tur, wrk, en, tr, nx, fa⟩ := v
  unfold phi runS
  dsimp only [vME, vRE, vSTA, vVEC, vSCR, vBK, vCAU, vVAL, vTAB, vTUR, vWRK, vPC, vMD, vEN]
set_option maxHeartbeats 40000 in
theorem th1_phi (v : RS) : phi (setTH v 1) = phi v := rfl
set_option maxHeartbeats 40000 in
theorem th_of (v : RS) (x : Int32) (h : Inv (setTH v 0)) : Inv (setTH (setTH v x) 0) := by
  obtain ⟨th, me, re, pc, md, sta, vec, scr, bk, cau, val, tab, tur, wrk, en, tr, nx, fa⟩ := v
  exact h
set_option maxHeartbeats 40000 in
theorem no_fin (v : RS) (q : Int32) (h : Inv (setTH v 0)) : PubI v none (q, setTH v 1) := ⟨Or.inl ⟨rfl, rfl, th1_phi v⟩, th_of v 1 h⟩
set_option maxHeartbeats 40000 in
theorem nul_fin (v : RS) (q : Int32) (h : Inv (setTH v 0)) : PubI v (some (q, phi v)) (q, setTH v 0) := ⟨Or.inr ⟨rfl, by rw [th_phi]⟩, th_of v 0 h⟩
set_option maxHeartbeats 40000 in
theorem r_run_eq (v : RS) (p : Int32) : r_run v p = if p < 0 then (0, setTH v 1) else if p ≤ 20000 then (if p = 0 then (0, setTH v 0) else r_go 20001 p 0 (runS v)) else (0, setTH v 1) := by
  unfold r_run runS setTH
  rfl
set_option maxHeartbeats 40000 in
theorem P_run (v : RS) (p : Int32) (hi : Inv (setTH v 0)) : PubI v (h_run (phi v) p) (r_run v p) := by
  rw [r_run_eq]
  unfold h_run
  by_cases c : p < 0
  · rw [if_pos c, if_pos c]
    exact no_fin v 0 hi
  · rw [if_neg c, if_neg c]
    by_cases d : p ≤ 20000
    · rw [if_pos d, if_pos d]
      by_cases e : p = 0
      · rw [if_pos e, if_pos e]
        exact nul_fin v 0 hi
      · rw [if_neg e, if_neg e]
        obtain ⟨h1, h2⟩ := L_go 20001 p 0 (runS v) (run_pre v hi)
        rw [run_phi]
        exact run_fin v _ _ h1 h2
    · rw [if_neg d, if_neg d]
      exact no_fin v 0 hi
