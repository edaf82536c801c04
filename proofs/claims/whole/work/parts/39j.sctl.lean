set_option maxHeartbeats 40000 in
theorem P_setControl (v : RS) (p x : Int32) (hi : Inv (setTH v 0)) : PubV v (h_setControl (phi v) p x) (r_setControl v p x) := by
  unfold h_setControl r_setControl
  dsimp only
  rcases slots (setTH v 0) p with ⟨k, s1, s2, s3, s4, s5, s6, s7, s8⟩ | ⟨s1, s2⟩
  · rw [s1, if_pos s2, s3, if_neg (by decide)]
    exact ⟨Or.inr ⟨put_th (setTH v 0) p x, congrArg some (s5 x)⟩, th_inv (s6 hi x)⟩
  · rw [s1, s2, if_neg (by decide), if_pos rfl]
    exact ⟨Or.inl ⟨rfl, rfl, rfl⟩, hi⟩
