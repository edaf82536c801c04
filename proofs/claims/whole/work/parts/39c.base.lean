/-! the public methods -/
def PubI (v : RS) (x : Option (Int32 × HS)) (r : Int32 × RS) : Prop := ((vTH r.2 = 1 ∧ x = none ∧ phi r.2 = phi v) ∨ (vTH r.2 = 0 ∧ x = some (r.1, phi r.2))) ∧ Inv (setTH r.2 0)
def PubV (v : RS) (x : Option HS) (r : RS) : Prop := ((vTH r = 1 ∧ x = none ∧ phi r = phi v) ∨ (vTH r = 0 ∧ x = some (phi r))) ∧ Inv (setTH r 0)
theorem th_phi (v : RS) : phi (setTH v 0) = phi v := rfl
theorem fa_th (v : RS) (F : Int32) : vTH (setFA (setTH v 0) F) = 0 := rfl
theorem th_inv {v : RS} (h : Inv v) : Inv (setTH v 0) := ⟨h.1, h.2.1, h.2.2.1, h.2.2.2.1, h.2.2.2.2.1, h.2.2.2.2.2.1, rfl⟩
theorem th_th (v : RS) (x : Int32) (h : Inv (setTH v 0)) : Inv (setTH (setTH v x) 0) := h
theorem run_fin (v : RS) (g : Int32 × HS) (z : Int32 × RS) (h1 : g = (z.1, phi z.2)) (h2 : Inv z.2) : PubI v (some g) z := ⟨Or.inr ⟨h2.2.2.2.2.2.2, congrArg some h1⟩, th_inv h2⟩
theorem tra_fin (v : RS) (q : Int32) (r : RS) (h1 : phi r = phi v) (h2 : Inv (setTH r 0)) (h3 : vTH r = 0) : PubI v (some (q, phi v)) (q, r) := ⟨Or.inr ⟨h3, by rw [h1]⟩, h2⟩
