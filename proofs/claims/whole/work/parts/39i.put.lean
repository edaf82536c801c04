set_option maxHeartbeats 40000 in
theorem put_th (v : RS) (n x : Int32) : vTH (r_putControl v n x) = vTH v := by
  unfold r_putControl
  dsimp only
  split
  · rfl
  split
  · rfl
  split
  · rfl
  split
  · rfl
  split
  · rfl
  split
  · rfl
  split
  · rfl
  split
  · rfl
  rfl
