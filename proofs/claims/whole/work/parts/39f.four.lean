set_option maxHeartbeats 40000 in
theorem four (a : Int32) (h : ¬ h_isWord a = 0) : (h_isWord (a + 12) = 0) = (262128 < a) := by
  have h1 := mem_lt (word_mem h)
  have h2 : un (a &&& 3) = 0 := by rw [word_al h]; rfl
  rw [a_3] at h2
  have e1 : (262128 < a) ↔ 262128 < un a := by
    rw [Int32.lt_iff_toInt_lt, un_int a, if_pos (by omega)]
    show (262128 : Int) < _ ↔ _
    omega
  have e2 : un (a + 12) = un a + 12 := by rw [un_add, show un (12 : Int32) = 12 from rfl]; omega
  apply propext
  rw [e1]
  constructor
  · intro q
    apply Classical.byContradiction
    intro n
    have m : ¬ h_isInMemory (a + 12) = 0 := mem_of_lt (by omega)
    unfold h_isWord at q
    dsimp only at q
    rw [if_neg m, if_pos (un_inj (by rw [a_3, e2]; show _ = 0; omega))] at q
    exact absurd q (by decide)
  · intro q
    apply Classical.byContradiction
    intro n
    have m := mem_lt (word_mem n)
    have m2 := word_al n
    have m3 : un ((a + 12) &&& 3) = 0 := by rw [m2]; rfl
    rw [a_3] at m3
    omega
set_option maxHeartbeats 40000 in
theorem div4 {a : Int32} (h : ¬ h_isInMemory a = 0) : a / 4 = jush a 2 := by
  obtain ⟨j, hj, rfl⟩ := h_mem_of h
  rw [h_ush2 hj, r_div4 hj]
set_option maxHeartbeats 40000 in
theorem P_pokeFour (v : RS) (p a b c d : Int32) (hi : Inv (setTH v 0)) : PubV v (h_pokeFour (phi v) p a b c d) (r_pokeFour v p a b c d) := by
  unfold h_pokeFour r_pokeFour
  dsimp only
  rw [place_eq]
  by_cases c1 : h_isWord p = 0
  · rw [if_pos c1, if_pos c1]
    exact ⟨Or.inl ⟨rfl, rfl, rfl⟩, hi⟩
  · rw [if_neg c1, if_neg c1]
    by_cases c2 : 262128 < p
    · rw [if_pos ((four p c1).mpr c2), if_pos c2]
      exact ⟨Or.inl ⟨rfl, rfl, rfl⟩, hi⟩
    · rw [if_neg (fun q => c2 ((four p c1).mp q)), if_neg c2, div4 (word_mem c1)]
      exact ⟨Or.inr ⟨rfl, rfl⟩, hi⟩
