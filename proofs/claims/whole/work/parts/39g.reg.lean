set_option maxHeartbeats 40000 in
theorem P_register (v : RS) (p : Int32) (hi : Inv (setTH v 0)) : PubI v (h_register (phi v) p) (r_register v p) := by
  unfold h_register r_register
  by_cases c : p < 0
  · rw [if_pos c, if_pos c]
    exact ⟨Or.inl ⟨rfl, rfl, rfl⟩, hi⟩
  · rw [if_neg c, if_neg c]
    by_cases d : p ≤ 33
    · rw [if_pos d, if_pos d]
      by_cases e : p = 32
      · rw [if_pos e, if_pos e]
        exact ⟨Or.inr ⟨rfl, rfl⟩, hi⟩
      · rw [if_neg e, if_neg e]
        by_cases f : p = 33
        · rw [if_pos f, if_pos f]
          exact ⟨Or.inr ⟨rfl, rfl⟩, hi⟩
        · rw [if_neg f, if_neg f]
          exact ⟨Or.inr ⟨rfl, rfl⟩, hi⟩
    · rw [if_neg d, if_neg d]
      exact ⟨Or.inl ⟨rfl, rfl, rfl⟩, hi⟩
set_option maxHeartbeats 40000 in
theorem set_th (v : RS) (D d : Int32) : vTH (r_set v D d) = vTH v := by rw [r_set_eq]; rfl
set_option maxHeartbeats 40000 in
theorem P_setRegister (v : RS) (p x : Int32) (hi : Inv (setTH v 0)) : PubV v (h_setRegister (phi v) p x) (r_setRegister v p x) := by
  unfold h_setRegister r_setRegister
  by_cases c : p < 0
  · rw [if_pos c, if_pos c]
    exact ⟨Or.inl ⟨rfl, rfl, rfl⟩, hi⟩
  · rw [if_neg c, if_neg c]
    by_cases d : p ≤ 33
    · rw [if_pos d, if_pos d]
      by_cases e : p = 32
      · rw [if_pos e, if_pos e]
        exact ⟨Or.inr ⟨rfl, rfl⟩, hi⟩
      · rw [if_neg e, if_neg e]
        by_cases f : p = 33
        · rw [if_pos f, if_pos f]
          dsimp only
          rw [e_b0]
          refine ⟨Or.inr ⟨rfl, rfl⟩, ?_, hi.2⟩
          show x &&& 1 = 0 ∨ x &&& 1 = 1
          have h1 := a_1 x
          have h2 : un x % 2 = 0 ∨ un x % 2 = 1 := by omega
          rcases h2 with h2 | h2
          · exact Or.inl (un_inj (by rw [h1, h2]; rfl))
          · exact Or.inr (un_inj (by rw [h1, h2]; rfl))
        · rw [if_neg f, if_neg f]
          have hp : un p < 32 := by
            have h1 : un p < 2147483648 := Classical.byContradiction fun q => c ((neg_un p).mpr q)
            rw [Int32.le_iff_toInt_le, un_int p, if_pos h1] at d
            have d2 : (un p : Int) ≤ 33 := d
            have h32 : un p ≠ 32 := fun q => e (un_inj q)
            have h33 : un p ≠ 33 := fun q => f (un_inj q)
            omega
          obtain ⟨h1, h2⟩ := L_set (setTH v 0) p x hp hi
          refine ⟨Or.inr ⟨(set_th (setTH v 0) p x), ?_⟩, th_inv h2⟩
          have h3 : phi (r_set (setTH v 0) p x) = if p = 0 then phi v else ((phi v).1, upd (phi v).2.1 p.toNatClampNeg x, (phi v).2.2) := h1
          show _ = some (phi (r_set (setTH v 0) p x))
          rw [h3]
          by_cases z : p = 0
          · rw [if_pos z, if_pos z]
          · rw [if_neg z, if_neg z]
    · rw [if_neg d, if_neg d]
      exact ⟨Or.inl ⟨rfl, rfl, rfl⟩, hi⟩
