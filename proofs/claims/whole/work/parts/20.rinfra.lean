
/-- the state of the class: its fields in their order -/
abbrev RS : Type := Int32 × (Nat → Int32) × (Nat → Int32) × Int32 × Int32 × Int32 × Int32 × Int32 × Int32 × Int32 × Int32 × Int32 × Int32 × Int32 × Int32 × Int32 × Int32 × Int32
def rA (h0 qme0 qre1 sz : Nat) : Nat → Prop := fun q => q = h0 ∨ q = qme0 ∨ q = qre1 ∨ sz ≤ q
abbrev rW (cI h0 qme0 qre1 : Nat) (u : RS) : va_W := [(h0, .inr (1, [.int u.1, .ref qme0, .ref qre1, .int u.2.2.2.1, .int u.2.2.2.2.1, .int u.2.2.2.2.2.1, .int u.2.2.2.2.2.2.1, .int u.2.2.2.2.2.2.2.1, .int u.2.2.2.2.2.2.2.2.1, .int u.2.2.2.2.2.2.2.2.2.1, .int u.2.2.2.2.2.2.2.2.2.2.1, .int u.2.2.2.2.2.2.2.2.2.2.2.1, .int u.2.2.2.2.2.2.2.2.2.2.2.2.1, .int u.2.2.2.2.2.2.2.2.2.2.2.2.2.1, .int u.2.2.2.2.2.2.2.2.2.2.2.2.2.2.1, .int u.2.2.2.2.2.2.2.2.2.2.2.2.2.2.2.1, .int u.2.2.2.2.2.2.2.2.2.2.2.2.2.2.2.2.1, .int u.2.2.2.2.2.2.2.2.2.2.2.2.2.2.2.2.2])), (qme0, .inl (cI, 65536, .inl u.2.1)), (qre1, .inl (cI, 32, .inl u.2.2.1))]
/-- the static tables, at addresses that no method's cells are -/
def rZ (tN tB : Nat) (A : Nat → Prop) (U : State) (H : Heap) : Prop := True
def rB (dC : Nat → ClassId) (dI : Nat → Nat → Nat) (cI h0 qme0 qre1 : Nat) (A : Nat → Prop) (u : RS) (t : State) : Prop := va_P (dC, dI) vwCl (rW cI h0 qme0 qre1 u) t.heap ∧ va_K (dC, dI) vwCl [(cI, .int)] t ∧ va_D A (rW cI h0 qme0 qre1 u)
def rPre (dC : Nat → ClassId) (dI : Nat → Nat → Nat) (cI h0 qme0 qre1 tN tB sz : Nat) (u : RS) : State → Prop := fun U => U.heap.size = sz ∧ va_P (dC, dI) vwCl (rW cI h0 qme0 qre1 u) U.heap ∧ va_K (dC, dI) vwCl [(cI, .int)] U ∧ va_D (fun _ => True) (rW cI h0 qme0 qre1 u) ∧ rZ tN tB (rA h0 qme0 qre1 sz) U U.heap
def rZp (tN tB : Nat) : State → Prop := fun U => rZ tN tB (fun _ => False) U U.heap
theorem rZ.moved {tN tB : Nat} {A : Nat → Prop} {u U : State} {H : Heap} (hvm : u.vm.Alike U.vm) (h : rZ tN tB A u H) : rZ tN tB A U H := h
theorem rZ.kept {tN tB : Nat} {A : Nat → Prop} {U : State} {H H1 : Heap} (h : rZ tN tB A U H) (hq : ∀ a : Nat, a < H.size → ¬ A a → H1[a]? = H[a]?) : rZ tN tB A U H1 := h
theorem rZ.narrow {tN tB : Nat} {A B : Nat → Prop} {U : State} {H : Heap} (h : rZ tN tB A U H) (hAB : ∀ q, B q → A q) : rZ tN tB B U H := h
theorem rD {cI h0 qme0 qre1 sz : Nat} {u : RS} {A : Nat → Prop} (h : va_D A (rW cI h0 qme0 qre1 u)) : va_D (rA h0 qme0 qre1 sz) (rW cI h0 qme0 qre1 u) := by
  refine ⟨h.1, fun k q hk => ?_⟩
  have hm := List.mem_of_getElem? hk
  simp only [List.mem_cons, List.not_mem_nil, or_false] at hm
  unfold rA
  rcases hm with rfl | rfl | rfl <;> simp
theorem rDm {cI h0 qme0 qre1 a b : Nat} {u : RS} (h : va_D (rA h0 qme0 qre1 b) (rW cI h0 qme0 qre1 u)) : va_D (rA h0 qme0 qre1 a) (rW cI h0 qme0 qre1 u) := rD h
theorem rAm {h0 qme0 qre1 a b : Nat} (hab : a ≤ b) (q : Nat) (h : rA h0 qme0 qre1 b q) : rA h0 qme0 qre1 a q := by
  unfold rA at h ⊢
  omega
theorem rblind {av : List Value} {dC : Nat → ClassId} {dI : Nat → Nat → Nat} {cI h0 qme0 qre1 tN tB sz : Nat} {u : RS} : FrameBlind (va_Pc av (rPre dC dI cI h0 qme0 qre1 tN tB sz u)) := by
  intro a U g mk q
  obtain ⟨q0, q1, qP, qK, qD, qZ⟩ := q
  exact ⟨q0, q1, qP, va_K.moved (u := U) (U := U.calling g mk a) (Vm.Alike.refl U.vm) qK, qD, rZ.moved (u := U) (U := U.calling g mk a) (Vm.Alike.refl U.vm) qZ⟩
theorem rZblind {av : List Value} {tN tB : Nat} : FrameBlind (va_Pc av (rZp tN tB)) := by
  intro a U g mk q
  exact ⟨q.1, rZ.moved (u := U) (U := U.calling g mk a) (Vm.Alike.refl U.vm) q.2⟩
section rsec
variable {p : Program} {l : Launch} {e : Env} {R : Room} {s : State} {m : MethodId} {args : Array Value} {below : List Frame} {meth : Method} {c : Code} {H : Heap} {locs : List Loc} {cells slots : Nat} {Q : State → Prop}
variable {dC : Nat → ClassId} {dI : Nat → Nat → Nat} {cI h0 qme0 qre1 tN tB : Nat} {u : RS}
theorem rpreOf (hK : va_K (dC, dI) vwCl [(cI, .int)] s) (hP : va_P (dC, dI) vwCl (rW cI h0 qme0 qre1 u) H) (hD : va_D (rA h0 qme0 qre1 s.heap.size) (rW cI h0 qme0 qre1 u)) (hS : va_S (rA h0 qme0 qre1 s.heap.size) s.heap H locs) (hZ : rZ tN tB (rA h0 qme0 qre1 s.heap.size) s s.heap) (U : State) (hU : U.heap = H) (hW : s.WarmedH U.vm) : rPre dC dI cI h0 qme0 qre1 tN tB H.size u U :=
  ⟨by rw [hU], by rw [hU]; exact hP, va_K.moved hW.alike hK, hD.weaken (fun _ _ _ _ => trivial), by rw [hU]; exact ((hZ.moved hW.alike).kept hS.2.1).narrow (rAm hS.1)⟩
theorem rZpOf (hS : va_S (rA h0 qme0 qre1 s.heap.size) s.heap H locs) (hZ : rZ tN tB (rA h0 qme0 qre1 s.heap.size) s s.heap) (U : State) (hU : U.heap = H) (hW : s.WarmedH U.vm) : rZp tN tB U := by
  unfold rZp
  rw [hU]; exact ((hZ.moved hW.alike).kept hS.2.1).narrow (fun _ h => h.elim)
variable {y : MethodName} {bytes cc : ByteArray} {maxL nL n index pc : Nat} {ret : Option FieldType} {ws : List Cond} {rm : Room} {Ts : List Cond} {own : String} {As rest st0 : List Value} {ls : Array Slot}
theorem rR {f : Int32} (S : CallFix p m c cc nL s args Ts own) (hM : Met l y ws rm (va_Pc (.ref h0 :: As) (rPre dC dI cI h0 qme0 qre1 tN tB H.size u)) (QcRead f) 0 0 (fun _ => False)) (cw : CallW R s args own "PagedHartModel" index y bytes maxL ret ws rm 0 0 n)
    (hK : va_K (dC, dI) vwCl [(cI, .int)] s) (hP : va_P (dC, dI) vwCl (rW cI h0 qme0 qre1 u) H) (hD : va_D (rA h0 qme0 qre1 s.heap.size) (rW cI h0 qme0 qre1 u)) (hS : va_S (rA h0 qme0 qre1 s.heap.size) s.heap H locs) (hZ : rZ tN tB (rA h0 qme0 qre1 s.heap.size) s s.heap)
    (hn : As.length = n) (hsize : ls.size = nL) (hst : st0 = As.reverse ++ .ref h0 :: rest) (hr : (rest.map fun v => v.category).sum ≤ 8) (hdg : decode cc pc = .ok (.invokevirtual index, 3))
    (hf : cells ≤ R.cells ∧ slots ≤ R.slots)
    (kk : W p l e R s m args below meth c H locs cells slots Q (F0 m (pc + 3) ls (.int f :: rest))) : W p l e R s m args below meth c H locs cells slots Q (F0 m pc ls st0) :=
  W.callR (W.runV (As := As) (rest := rest) S hM cw ⟨rblind, va_recv hK hP (ci := 1) (q0 := 0) rfl rfl, fun U hU hW => ⟨rfl, rpreOf hK hP hD hS hZ U hU hW⟩⟩ rfl hn hsize hst (lv_room hr) hdg hf) kk
theorem rMi {f : Int32 × RS} (S : CallFix p m c cc nL s args Ts own) (hM : Met l y ws rm (va_Pc (.ref h0 :: As) (rPre dC dI cI h0 qme0 qre1 tN tB H.size u)) (va_Qi (fun r v => (r, v) = f) (rB dC dI cI h0 qme0 qre1 (rA h0 qme0 qre1 H.size)) (rA h0 qme0 qre1 H.size)) 0 0 (rA h0 qme0 qre1 H.size)) (cw : CallW R s args own "PagedHartModel" index y bytes maxL ret ws rm 0 0 n)
    (hK : va_K (dC, dI) vwCl [(cI, .int)] s) (hP : va_P (dC, dI) vwCl (rW cI h0 qme0 qre1 u) H) (hD : va_D (rA h0 qme0 qre1 s.heap.size) (rW cI h0 qme0 qre1 u)) (hS : va_S (rA h0 qme0 qre1 s.heap.size) s.heap H locs) (hZ : rZ tN tB (rA h0 qme0 qre1 s.heap.size) s s.heap)
    (hn : As.length = n) (hsize : ls.size = nL) (hst : st0 = As.reverse ++ .ref h0 :: rest) (hr : (rest.map fun v => v.category).sum ≤ 8) (hdg : decode cc pc = .ok (.invokevirtual index, 3))
    (hf : cells ≤ R.cells ∧ slots ≤ R.slots)
    (kk : ∀ (z : Int32 × RS), z = f → ∀ (H : Heap) (locs : List Loc), va_P (dC, dI) vwCl (rW cI h0 qme0 qre1 z.2) H → va_D (rA h0 qme0 qre1 s.heap.size) (rW cI h0 qme0 qre1 z.2) → va_S (rA h0 qme0 qre1 s.heap.size) s.heap H locs → W p l e R s m args below meth c H locs cells slots Q (F0 m (pc + 3) ls (.int z.1 :: rest))) : W p l e R s m args below meth c H locs cells slots Q (F0 m pc ls st0) := by
  refine va_calli (va_runV (As := As) (rest := rest) S hM cw ⟨rblind, va_recv hK hP (ci := 1) (q0 := 0) rfl rfl, fun U hU hW => ⟨rfl, rpreOf hK hP hD hS hZ U hU hW⟩⟩ rfl hn hsize hst (lv_room hr) hdg hf) hS (fun q _ h => rAm hS.1 q h) (fun q h => rAm hS.1 q h) (fun r v t H1 locs1 ht hvm hw hB hz hk hS1 => ?_)
  obtain ⟨hP1, -, hD1⟩ := hB
  rw [ht] at hP1
  exact kk (r, v) hw H1 locs1 hP1 (rDm hD1) hS1
theorem rMv {f : RS} (S : CallFix p m c cc nL s args Ts own) (hM : Met l y ws rm (va_Pc (.ref h0 :: As) (rPre dC dI cI h0 qme0 qre1 tN tB H.size u)) (va_Qv (fun v => v = f) (rB dC dI cI h0 qme0 qre1 (rA h0 qme0 qre1 H.size)) (rA h0 qme0 qre1 H.size)) 0 0 (rA h0 qme0 qre1 H.size)) (cw : CallW R s args own "PagedHartModel" index y bytes maxL ret ws rm 0 0 n)
    (hK : va_K (dC, dI) vwCl [(cI, .int)] s) (hP : va_P (dC, dI) vwCl (rW cI h0 qme0 qre1 u) H) (hD : va_D (rA h0 qme0 qre1 s.heap.size) (rW cI h0 qme0 qre1 u)) (hS : va_S (rA h0 qme0 qre1 s.heap.size) s.heap H locs) (hZ : rZ tN tB (rA h0 qme0 qre1 s.heap.size) s s.heap)
    (hn : As.length = n) (hsize : ls.size = nL) (hst : st0 = As.reverse ++ .ref h0 :: rest) (hr : (rest.map fun v => v.category).sum ≤ 8) (hdg : decode cc pc = .ok (.invokevirtual index, 3))
    (hf : cells ≤ R.cells ∧ slots ≤ R.slots)
    (kk : ∀ (z : RS), z = f → ∀ (H : Heap) (locs : List Loc), va_P (dC, dI) vwCl (rW cI h0 qme0 qre1 z) H → va_D (rA h0 qme0 qre1 s.heap.size) (rW cI h0 qme0 qre1 z) → va_S (rA h0 qme0 qre1 s.heap.size) s.heap H locs → W p l e R s m args below meth c H locs cells slots Q (F0 m (pc + 3) ls rest)) : W p l e R s m args below meth c H locs cells slots Q (F0 m pc ls st0) := by
  refine va_callv (va_runV (As := As) (rest := rest) S hM cw ⟨rblind, va_recv hK hP (ci := 1) (q0 := 0) rfl rfl, fun U hU hW => ⟨rfl, rpreOf hK hP hD hS hZ U hU hW⟩⟩ rfl hn hsize hst (lv_room hr) hdg hf) hS (fun q _ h => rAm hS.1 q h) (fun q h => rAm hS.1 q h) (fun v t H1 locs1 ht hvm hw hB hz hk hS1 => ?_)
  obtain ⟨hP1, -, hD1⟩ := hB
  rw [ht] at hP1
  exact kk v hw H1 locs1 hP1 (rDm hD1) hS1
theorem rIret {v : Int32} {f : Int32 × RS} (hx : p.tables.exec = Jvm.exec) (hb : c.code = cc) (hr : meth.sig.returnType = some .int) (hlocks : meth.locks = false) (hq : (v, u) = f) (hK : va_K (dC, dI) vwCl [(cI, .int)] s) (hP : va_P (dC, dI) vwCl (rW cI h0 qme0 qre1 u) H) (hD : va_D (rA h0 qme0 qre1 s.heap.size) (rW cI h0 qme0 qre1 u)) (hS : va_S (rA h0 qme0 qre1 s.heap.size) s.heap H locs) (hdg : decode cc pc = .ok (.ireturn, 1)) :
    W p l e R s m args below meth c H locs cells slots (MQ below (va_Qi (fun r v => (r, v) = f) (rB dC dI cI h0 qme0 qre1 (rA h0 qme0 qre1 s.heap.size)) (rA h0 qme0 qre1 s.heap.size)) args s cells slots (rA h0 qme0 qre1 s.heap.size)) (F0 m pc ls [.int v]) :=
  W.iret (v := v) hx hb hr (fun t ht hW => ⟨⟨v, u, rfl, hq, by rw [ht]; exact hP, va_K.moved hW.alike hK, hD⟩, hS.F ht⟩) hS.2.2 hdg hlocks
theorem rZret {v : Int32} {f : Int32 × RS} (hx : p.tables.exec = Jvm.exec) (hb : c.code = cc) (hr : meth.sig.returnType = some .boolean) (hlocks : meth.locks = false) (hn : narrow .boolean (.int v) = .int v) (hq : (v, u) = f) (hK : va_K (dC, dI) vwCl [(cI, .int)] s) (hP : va_P (dC, dI) vwCl (rW cI h0 qme0 qre1 u) H) (hD : va_D (rA h0 qme0 qre1 s.heap.size) (rW cI h0 qme0 qre1 u)) (hS : va_S (rA h0 qme0 qre1 s.heap.size) s.heap H locs) (hdg : decode cc pc = .ok (.ireturn, 1)) :
    W p l e R s m args below meth c H locs cells slots (MQ below (va_Qi (fun r v => (r, v) = f) (rB dC dI cI h0 qme0 qre1 (rA h0 qme0 qre1 s.heap.size)) (rA h0 qme0 qre1 s.heap.size)) args s cells slots (rA h0 qme0 qre1 s.heap.size)) (F0 m pc ls [.int v]) :=
  W.zret (v := v) hx hb hr hn (fun t ht hW => ⟨⟨v, u, rfl, hq, by rw [ht]; exact hP, va_K.moved hW.alike hK, hD⟩, hS.F ht⟩) hS.2.2 hdg hlocks
theorem rVret {f : RS} (hx : p.tables.exec = Jvm.exec) (hb : c.code = cc) (hr : meth.sig.returnType = none) (hlocks : meth.locks = false) (hq : u = f) (hK : va_K (dC, dI) vwCl [(cI, .int)] s) (hP : va_P (dC, dI) vwCl (rW cI h0 qme0 qre1 u) H) (hD : va_D (rA h0 qme0 qre1 s.heap.size) (rW cI h0 qme0 qre1 u)) (hS : va_S (rA h0 qme0 qre1 s.heap.size) s.heap H locs) (hdg : decode cc pc = .ok (.return_, 1)) :
    W p l e R s m args below meth c H locs cells slots (MQ below (va_Qv (fun v => v = f) (rB dC dI cI h0 qme0 qre1 (rA h0 qme0 qre1 s.heap.size)) (rA h0 qme0 qre1 s.heap.size)) args s cells slots (rA h0 qme0 qre1 s.heap.size)) (F0 m pc ls []) :=
  W.vret hx hb hr (fun t ht hW => ⟨⟨u, rfl, hq, by rw [ht]; exact hP, va_K.moved hW.alike hK, hD⟩, hS.F ht⟩) hS.2.2 hdg hlocks
end rsec
