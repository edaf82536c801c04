set_option maxHeartbeats 40000 in
theorem place_eq (a : Int32) : r_isPlace a = h_isWord a := by
  unfold r_isPlace h_isWord
  dsimp only
  rw [e_isW]
  by_cases c : h_isInMemory a = 0
  · rw [if_pos c, if_pos c]
  · rw [if_neg c, if_neg c, e_rem4 (by have := mem_lt c; omega)]
set_option maxHeartbeats 40000 in
theorem word_mem {a : Int32} (h : ¬ h_isWord a = 0) : ¬ h_isInMemory a = 0 := fun c => h (by unfold h_isWord; dsimp only; rw [if_pos c])
set_option maxHeartbeats 40000 in
theorem word_al {a : Int32} (h : ¬ h_isWord a = 0) : a &&& 3 = 0 := Classical.byContradiction fun d => h (by unfold h_isWord; dsimp only; rw [if_neg (word_mem h), if_neg d])
set_option maxHeartbeats 40000 in
theorem P_peek (v : RS) (p : Int32) (hi : Inv (setTH v 0)) : PubI v (h_peek (phi v) p) (r_peek v p) := by
  unfold h_peek r_peek
  dsimp only
  rw [place_eq]
  by_cases c : h_isWord p = 0
  · rw [if_pos c, if_pos c]
    exact ⟨Or.inl ⟨rfl, rfl, rfl⟩, hi⟩
  · rw [if_neg c, if_neg c, e_ix (word_mem c)]
    exact ⟨Or.inr ⟨rfl, rfl⟩, hi⟩
set_option maxHeartbeats 40000 in
theorem P_poke (v : RS) (p x : Int32) (hi : Inv (setTH v 0)) : PubV v (h_poke (phi v) p x) (r_poke v p x) := by
  unfold h_poke r_poke
  dsimp only
  rw [place_eq]
  by_cases c : h_isWord p = 0
  · rw [if_pos c, if_pos c]
    exact ⟨Or.inl ⟨rfl, rfl, rfl⟩, hi⟩
  · rw [if_neg c, if_neg c, e_ix (word_mem c)]
    exact ⟨Or.inr ⟨rfl, rfl⟩, hi⟩
