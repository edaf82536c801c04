set_option maxHeartbeats 40000 in
theorem P_translate (v : RS) (p x : Int32) (hi : Inv (setTH v 0)) : PubI v (h_translate (phi v) p x) (r_translate v p x) := by
  unfold h_translate r_translate
  by_cases c : x < 0
  · rw [if_pos c, if_pos c]
    exact ⟨Or.inl ⟨rfl, rfl, rfl⟩, hi⟩
  · rw [if_neg c, if_neg c]
    by_cases d : x ≤ 2
    · rw [if_pos d, if_pos d]
      have hx : x = 0 ∨ x = 1 ∨ x = 2 := by
        have h1 : un x < 2147483648 := Classical.byContradiction fun q => c ((neg_un x).mpr q)
        rw [Int32.le_iff_toInt_le, un_int x, if_pos h1] at d
        have d2 : (un x : Int) ≤ 2 := d
        have h2 : un x = 0 ∨ un x = 1 ∨ un x = 2 := by omega
        rcases h2 with h2 | h2 | h2
        · exact Or.inl (un_inj h2)
        · exact Or.inr (Or.inl (un_inj h2))
        · exact Or.inr (Or.inr (un_inj h2))
      obtain ⟨q, F, h1, h2⟩ := L_loc (setTH v 0) p x hx
      have e2 : ((0 : Int32), v.2.1, v.2.2.1, v.2.2.2.1, v.2.2.2.2.1, v.2.2.2.2.2.1, v.2.2.2.2.2.2.1, v.2.2.2.2.2.2.2.1, v.2.2.2.2.2.2.2.2.1, v.2.2.2.2.2.2.2.2.2.1, v.2.2.2.2.2.2.2.2.2.2.1, v.2.2.2.2.2.2.2.2.2.2.2.1, v.2.2.2.2.2.2.2.2.2.2.2.2.1, v.2.2.2.2.2.2.2.2.2.2.2.2.2.1, v.2.2.2.2.2.2.2.2.2.2.2.2.2.2.1, v.2.2.2.2.2.2.2.2.2.2.2.2.2.2.2.1, v.2.2.2.2.2.2.2.2.2.2.2.2.2.2.2.2.1, v.2.2.2.2.2.2.2.2.2.2.2.2.2.2.2.2.2) = setTH v 0 := rfl
      have e0 : h_locate (phi v) p x = h_locate (phi (setTH v 0)) p x := by rw [th_phi]
      have hfa : (setFA (setTH v 0) F).2.2.2.2.2.2.2.2.2.2.2.2.2.2.2.2.2 = F := fa_fa (setTH v 0) F
      dsimp only
      rw [e2, h1, e0]
      dsimp only
      rw [hfa]
      rcases h2 with ⟨e1, e3, e4⟩ | ⟨e1, e4⟩
      · rw [if_pos (by rw [e1]; decide), e4]
        exact tra_fin v _ _ ((fa_phi (setTH v 0) F).trans (th_phi v)) (th_inv (fa_inv hi F)) (fa_th v F)
      · rw [if_neg (by rw [neg_un]; omega), e4]
        exact tra_fin v _ _ ((fa_phi (setTH v 0) F).trans (th_phi v)) (th_inv (fa_inv hi F)) (fa_th v F)
    · rw [if_neg d, if_neg d]
      exact ⟨Or.inl ⟨rfl, rfl, rfl⟩, hi⟩
