set_option maxHeartbeats 40000 in
theorem P_called (v : RS) (hi : Inv (setTH v 0)) : (r_called v).1 = h_called (phi v) ∧ phi (r_called v).2 = phi v ∧ Inv (setTH (r_called v).2 0) := ⟨rfl, rfl, hi⟩
