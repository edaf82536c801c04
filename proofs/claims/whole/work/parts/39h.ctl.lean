set_option maxHeartbeats 40000 in
theorem P_control (v : RS) (p : Int32) (hi : Inv (setTH v 0)) : PubI v (h_control (phi v) p) (r_control v p) := by
  unfold h_control r_control
  dsimp only
  rcases slots (setTH v 0) p with ⟨k, s1, s2, s3, s4, s5, s6, s7, s8⟩ | ⟨s1, s2⟩
  · rw [s1, if_pos s2, s3, if_neg (by decide)]
    refine ⟨Or.inr ⟨rfl, ?_⟩, hi⟩
    have e : (phi v).2.2.1 k.toNatClampNeg = r_controlOf (setTH v 0) p := s4
    rw [e]
    rfl
  · rw [s1, s2, if_neg (by decide), if_pos rfl]
    exact ⟨Or.inl ⟨rfl, rfl, rfl⟩, hi⟩
