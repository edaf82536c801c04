/-! the law's calls -/
abbrev zA (n : Nat) : Nat → Prop := fun q => n ≤ q
abbrev lW (cI cL h0 qme0 qre1 qco2 k0 km kr qo : Nat) (u : HS) (v : RS) (o : Nat → Int64) : va_W := [(h0, .inr (0, [.ref qme0, .ref qre1, .ref qco2, .int u.2.2.2.1, .int u.2.2.2.2.1, .int u.2.2.2.2.2])), (qme0, .inl (cI, 65536, .inl u.1)), (qre1, .inl (cI, 32, .inl u.2.1)), (qco2, .inl (cI, 9, .inl u.2.2.1)), (k0, .inr (1, [.int v.1, .ref km, .ref kr, .int v.2.2.2.1, .int v.2.2.2.2.1, .int v.2.2.2.2.2.1, .int v.2.2.2.2.2.2.1, .int v.2.2.2.2.2.2.2.1, .int v.2.2.2.2.2.2.2.2.1, .int v.2.2.2.2.2.2.2.2.2.1, .int v.2.2.2.2.2.2.2.2.2.2.1, .int v.2.2.2.2.2.2.2.2.2.2.2.1, .int v.2.2.2.2.2.2.2.2.2.2.2.2.1, .int v.2.2.2.2.2.2.2.2.2.2.2.2.2.1, .int v.2.2.2.2.2.2.2.2.2.2.2.2.2.2.1, .int v.2.2.2.2.2.2.2.2.2.2.2.2.2.2.2.1, .int v.2.2.2.2.2.2.2.2.2.2.2.2.2.2.2.2.1, .int v.2.2.2.2.2.2.2.2.2.2.2.2.2.2.2.2.2])), (km, .inl (cI, 65536, .inl v.2.1)), (kr, .inl (cI, 32, .inl v.2.2.1)), (qo, .inl (cL, 1, .inr (.inl o)))]
theorem kA_va {cI cL h0 qme0 qre1 qco2 qo sz q : Nat} {u : HS} {o : Nat → Int64} (h : kA h0 qme0 qre1 qco2 qo sz q) : va_A (kW cI cL h0 qme0 qre1 qco2 qo u o) sz q := by
  rcases h with rfl | rfl | rfl | rfl | rfl | h
  · exact Or.inl ⟨4, _, rfl⟩
  · exact Or.inl ⟨0, _, rfl⟩
  · exact Or.inl ⟨1, _, rfl⟩
  · exact Or.inl ⟨2, _, rfl⟩
  · exact Or.inl ⟨3, _, rfl⟩
  · exact Or.inr h
theorem rA_va {cI k0 km kr sz q : Nat} {v : RS} (h : rA k0 km kr sz q) : va_A (rW cI k0 km kr v) sz q := by
  rcases h with rfl | rfl | rfl | h
  · exact Or.inl ⟨0, _, rfl⟩
  · exact Or.inl ⟨1, _, rfl⟩
  · exact Or.inl ⟨2, _, rfl⟩
  · exact Or.inr h
section lsec
variable {p : Program} {l : Launch} {e : Env} {R : Room} {s : State} {m : MethodId} {args : Array Value} {below : List Frame} {meth : Method} {c : Code} {H : Heap} {locs : List Loc} {cells slots : Nat} {Q : State → Prop}
variable {dC : Nat → ClassId} {dI : Nat → Nat → Nat} {cI cL h0 qme0 qre1 qco2 k0 km kr qo tN tB : Nat} {u : HS} {v : RS} {o : Nat → Int64}
theorem gA_z {n sz : Nat} (hD : va_D (zA n) (lW cI cL h0 qme0 qre1 qco2 k0 km kr qo u v o)) (hz : n ≤ sz) (q : Nat) (h : gA h0 qme0 qre1 qco2 sz q) : zA n q := by
  have h0' := hD.2 0 _ rfl
  have h1' := hD.2 1 _ rfl
  have h2' := hD.2 2 _ rfl
  have h3' := hD.2 3 _ rfl
  rcases h with rfl | rfl | rfl | rfl | h
  · exact h0'
  · exact h1'
  · exact h2'
  · exact h3'
  · exact Nat.le_trans hz h
theorem kA_z {n sz : Nat} (hD : va_D (zA n) (lW cI cL h0 qme0 qre1 qco2 k0 km kr qo u v o)) (hz : n ≤ sz) (q : Nat) (h : kA h0 qme0 qre1 qco2 qo sz q) : zA n q := by
  have h7' := hD.2 7 _ rfl
  rcases h with rfl | h
  · exact h7'
  · exact gA_z hD hz q h
theorem rA_z {n sz : Nat} (hD : va_D (zA n) (lW cI cL h0 qme0 qre1 qco2 k0 km kr qo u v o)) (hz : n ≤ sz) (q : Nat) (h : rA k0 km kr sz q) : zA n q := by
  have h0' := hD.2 4 _ rfl
  have h1' := hD.2 5 _ rfl
  have h2' := hD.2 6 _ rfl
  rcases h with rfl | rfl | rfl | h
  · exact h0'
  · exact h1'
  · exact h2'
  · exact Nat.le_trans hz h
theorem lpreG (hK : va_K (dC, dI) vwCl [(cI, .int), (cL, .long)] s) (hP : va_P (dC, dI) vwCl (lW cI cL h0 qme0 qre1 qco2 k0 km kr qo u v o) H) (hD : va_D (zA s.heap.size) (lW cI cL h0 qme0 qre1 qco2 k0 km kr qo u v o)) (hS : va_S (zA s.heap.size) s.heap H locs) (hZ : gZ tN tB (zA s.heap.size) s s.heap) (U : State) (hU : U.heap = H) (hW : s.WarmedH U.vm) : gPre dC dI cI h0 qme0 qre1 qco2 tN tB H.size u U :=
  ⟨by rw [hU], by rw [hU]; exact hP.sub [0, 1, 2, 3] rfl, va_K.moved hW.alike (hK.sub (tys' := [(cI, .int)]) [0] rfl), (hD.sub (ws' := gW cI h0 qme0 qre1 qco2 u) [0, 1, 2, 3] (by decide) rfl).weaken (fun _ _ _ _ => trivial), by rw [hU]; exact ((hZ.moved hW.alike).kept hS.2.1).narrow (gA_z hD hS.1)⟩
theorem lpreR (hK : va_K (dC, dI) vwCl [(cI, .int), (cL, .long)] s) (hP : va_P (dC, dI) vwCl (lW cI cL h0 qme0 qre1 qco2 k0 km kr qo u v o) H) (hD : va_D (zA s.heap.size) (lW cI cL h0 qme0 qre1 qco2 k0 km kr qo u v o)) (U : State) (hU : U.heap = H) (hW : s.WarmedH U.vm) : rPre dC dI cI k0 km kr tN tB H.size v U :=
  ⟨by rw [hU], by rw [hU]; exact hP.sub [4, 5, 6] rfl, va_K.moved hW.alike (hK.sub (tys' := [(cI, .int)]) [0] rfl), (hD.sub (ws' := rW cI k0 km kr v) [4, 5, 6] (by decide) rfl).weaken (fun _ _ _ _ => trivial), trivial⟩
variable {y : MethodName} {bytes cc : ByteArray} {maxL nL n index pc : Nat} {ret : Option FieldType} {hh : List (Nat × Nat × Nat × Nat)} {ws : List Cond} {rm : Room} {Ts : List Cond} {own : String} {As rest st0 : List Value} {ls : Array Slot} {E text : String} {is sa : Nat}
theorem lKI {f : Option (Int32 × HS)} (S : CallFix p m c cc nL s args Ts own) (hM : Met l y ws rm (va_Pc As (kPre E text is sa dC dI cI cL h0 qme0 qre1 qco2 qo tN tB H.size u o)) (va_Qi (kPostI u o f) (kB dC dI cI cL h0 qme0 qre1 qco2 qo (kA h0 qme0 qre1 qco2 qo H.size)) (kA h0 qme0 qre1 qco2 qo H.size)) 1 6 (kA h0 qme0 qre1 qco2 qo H.size)) (cw : vx_CSW R s args own index y bytes maxL ret hh ws rm 1 6 n)
    (hK : va_K (dC, dI) vwCl [(cI, .int), (cL, .long)] s) (hP : va_P (dC, dI) vwCl (lW cI cL h0 qme0 qre1 qco2 k0 km kr qo u v o) H) (hD : va_D (zA s.heap.size) (lW cI cL h0 qme0 qre1 qco2 k0 km kr qo u v o)) (hS : va_S (zA s.heap.size) s.heap H locs) (hZ : gZ tN tB (zA s.heap.size) s s.heap) (hX : gX E text is sa (zA s.heap.size) s s.heap)
    (hn : As.length = n) (hsize : ls.size = nL) (hst : st0 = As.reverse ++ rest) (hr : (rest.map fun v => v.category).sum ≤ 8) (hdg : decode cc pc = .ok (.invokestatic index, 3)) (hf : cells + 1 ≤ R.cells ∧ slots + 6 ≤ R.slots)
    (kk : ∀ (r : Int32) (z : KS), kPostI u o f r z → ∀ (H : Heap) (locs : List Loc), va_P (dC, dI) vwCl (lW cI cL h0 qme0 qre1 qco2 k0 km kr qo z.1 v z.2) H → va_D (zA s.heap.size) (lW cI cL h0 qme0 qre1 qco2 k0 km kr qo z.1 v z.2) → va_S (zA s.heap.size) s.heap H locs → W p l e R s m args below meth c H locs (cells + 1) (slots + 6) Q (F0 m (pc + 3) ls (.int r :: rest))) : W p l e R s m args below meth c H locs cells slots Q (F0 m pc ls st0) := by
  have hF := va_free (wc := kW cI cL h0 qme0 qre1 qco2 qo u o) hD hS (fun _ h => h) [0, 1, 2, 3, 7] rfl
  refine va_calli (vx_runSW (As := As) (rest := rest) S hM cw ⟨kblind, fun U hU hW => ⟨rfl, ⟨by rw [hU], by rw [hU]; exact hP.sub [0, 1, 2, 3, 7] rfl, va_K.moved hW.alike hK, (hD.sub (ws' := kW cI cL h0 qme0 qre1 qco2 qo u o) [0, 1, 2, 3, 7] (by decide) rfl).weaken (fun _ _ _ _ => trivial), by rw [hU]; exact ((hZ.moved hW.alike).kept hS.2.1).narrow (kA_z hD hS.1), by rw [hU]; exact ((hX.warm hW).kept hS.2.1).narrow (kA_z hD hS.1)⟩⟩⟩ rfl hn hsize hst (lv_room hr) hdg hf) hS (fun q _ h => kA_z hD hS.1 q h) (fun q h => kA_z hD hS.1 q h) (fun r z t H1 locs1 ht hvm hw hB hz hk hS1 => ?_)
  obtain ⟨hP1, -, hD1⟩ := hB
  rw [ht] at hP1
  obtain ⟨hP2, hD2⟩ := va_join (wr := rW cI k0 km kr v) (w1 := kW cI cL h0 qme0 qre1 qco2 qo z.1 z.2) hP hD [0, 1, 2, 3, 7] [4, 5, 6] rfl rfl (by decide) (by decide) (fun q h1 h2 => hk q h1 (fun g => h2 (kA_va g))) hF hP1 (hD1.weaken (fun _ q _ h => kA_va h))
  exact kk r z hw H1 locs1 (hP2.sub [3, 4, 5, 6, 0, 1, 2, 7] rfl) (hD2.sub [3, 4, 5, 6, 0, 1, 2, 7] (by decide) rfl) hS1
theorem lKV {f : Option HS} (S : CallFix p m c cc nL s args Ts own) (hM : Met l y ws rm (va_Pc As (gPreX E text is sa dC dI cI h0 qme0 qre1 qco2 tN tB H.size u)) (va_Qi (kPostV u f) (gB dC dI cI h0 qme0 qre1 qco2 (gA h0 qme0 qre1 qco2 H.size)) (gA h0 qme0 qre1 qco2 H.size)) 1 6 (gA h0 qme0 qre1 qco2 H.size)) (cw : vx_CSW R s args own index y bytes maxL ret hh ws rm 1 6 n)
    (hK : va_K (dC, dI) vwCl [(cI, .int), (cL, .long)] s) (hP : va_P (dC, dI) vwCl (lW cI cL h0 qme0 qre1 qco2 k0 km kr qo u v o) H) (hD : va_D (zA s.heap.size) (lW cI cL h0 qme0 qre1 qco2 k0 km kr qo u v o)) (hS : va_S (zA s.heap.size) s.heap H locs) (hZ : gZ tN tB (zA s.heap.size) s s.heap) (hX : gX E text is sa (zA s.heap.size) s s.heap)
    (hn : As.length = n) (hsize : ls.size = nL) (hst : st0 = As.reverse ++ rest) (hr : (rest.map fun v => v.category).sum ≤ 8) (hdg : decode cc pc = .ok (.invokestatic index, 3)) (hf : cells + 1 ≤ R.cells ∧ slots + 6 ≤ R.slots)
    (kk : ∀ (r : Int32) (z : HS), kPostV u f r z → ∀ (H : Heap) (locs : List Loc), va_P (dC, dI) vwCl (lW cI cL h0 qme0 qre1 qco2 k0 km kr qo z v o) H → va_D (zA s.heap.size) (lW cI cL h0 qme0 qre1 qco2 k0 km kr qo z v o) → va_S (zA s.heap.size) s.heap H locs → W p l e R s m args below meth c H locs (cells + 1) (slots + 6) Q (F0 m (pc + 3) ls (.int r :: rest))) : W p l e R s m args below meth c H locs cells slots Q (F0 m pc ls st0) := by
  have hF := va_free (wc := gW cI h0 qme0 qre1 qco2 u) hD hS (fun _ h => h) [0, 1, 2, 3] rfl
  refine va_calli (vx_runSW (As := As) (rest := rest) S hM cw ⟨gXblind, fun U hU hW => ⟨rfl, ⟨lpreG hK hP hD hS hZ U hU hW, by rw [hU]; exact ((hX.warm hW).kept hS.2.1).narrow (gA_z hD hS.1)⟩⟩⟩ rfl hn hsize hst (lv_room hr) hdg hf) hS (fun q _ h => gA_z hD hS.1 q h) (fun q h => gA_z hD hS.1 q h) (fun r z t H1 locs1 ht hvm hw hB hz hk hS1 => ?_)
  obtain ⟨hP1, -, hD1⟩ := hB
  rw [ht] at hP1
  obtain ⟨hP2, hD2⟩ := va_join (wr := [(k0, .inr (1, [.int v.1, .ref km, .ref kr, .int v.2.2.2.1, .int v.2.2.2.2.1, .int v.2.2.2.2.2.1, .int v.2.2.2.2.2.2.1, .int v.2.2.2.2.2.2.2.1, .int v.2.2.2.2.2.2.2.2.1, .int v.2.2.2.2.2.2.2.2.2.1, .int v.2.2.2.2.2.2.2.2.2.2.1, .int v.2.2.2.2.2.2.2.2.2.2.2.1, .int v.2.2.2.2.2.2.2.2.2.2.2.2.1, .int v.2.2.2.2.2.2.2.2.2.2.2.2.2.1, .int v.2.2.2.2.2.2.2.2.2.2.2.2.2.2.1, .int v.2.2.2.2.2.2.2.2.2.2.2.2.2.2.2.1, .int v.2.2.2.2.2.2.2.2.2.2.2.2.2.2.2.2.1, .int v.2.2.2.2.2.2.2.2.2.2.2.2.2.2.2.2.2])), (km, .inl (cI, 65536, .inl v.2.1)), (kr, .inl (cI, 32, .inl v.2.2.1)), (qo, .inl (cL, 1, .inr (.inl o)))]) (w1 := gW cI h0 qme0 qre1 qco2 z) hP hD [0, 1, 2, 3] [4, 5, 6, 7] rfl rfl (by decide) (by decide) (fun q h1 h2 => hk q h1 (fun g => h2 (gA_va g))) hF hP1 (hD1.weaken (fun _ q _ h => gA_va h))
  exact kk r z hw H1 locs1 (hP2.sub [4, 5, 6, 7, 0, 1, 2, 3] rfl) (hD2.sub [4, 5, 6, 7, 0, 1, 2, 3] (by decide) rfl) hS1
theorem lRI {f : Int32 × RS} (S : CallFix p m c cc nL s args Ts own) (hM : Met l y ws rm (va_Pc (.ref k0 :: As) (rPre dC dI cI k0 km kr tN tB H.size v)) (va_Qi (fun r z => (r, z) = f) (rB dC dI cI k0 km kr (rA k0 km kr H.size)) (rA k0 km kr H.size)) 0 0 (rA k0 km kr H.size)) (cw : CallW R s args own "PagedHartModel" index y bytes maxL ret ws rm 0 0 n)
    (hK : va_K (dC, dI) vwCl [(cI, .int), (cL, .long)] s) (hP : va_P (dC, dI) vwCl (lW cI cL h0 qme0 qre1 qco2 k0 km kr qo u v o) H) (hD : va_D (zA s.heap.size) (lW cI cL h0 qme0 qre1 qco2 k0 km kr qo u v o)) (hS : va_S (zA s.heap.size) s.heap H locs)
    (hn : As.length = n) (hsize : ls.size = nL) (hst : st0 = As.reverse ++ .ref k0 :: rest) (hr : (rest.map fun v => v.category).sum ≤ 8) (hdg : decode cc pc = .ok (.invokevirtual index, 3)) (hf : cells ≤ R.cells ∧ slots ≤ R.slots)
    (kk : ∀ (z : Int32 × RS), z = f → ∀ (H : Heap) (locs : List Loc), va_P (dC, dI) vwCl (lW cI cL h0 qme0 qre1 qco2 k0 km kr qo u z.2 o) H → va_D (zA s.heap.size) (lW cI cL h0 qme0 qre1 qco2 k0 km kr qo u z.2 o) → va_S (zA s.heap.size) s.heap H locs → W p l e R s m args below meth c H locs cells slots Q (F0 m (pc + 3) ls (.int z.1 :: rest))) : W p l e R s m args below meth c H locs cells slots Q (F0 m pc ls st0) := by
  have hF := va_free (wc := rW cI k0 km kr v) hD hS (fun _ h => h) [4, 5, 6] rfl
  refine va_calli (va_runV (As := As) (rest := rest) S hM cw ⟨rblind, va_recv (hK.sub (tys' := [(cI, .int)]) [0] rfl) (hP.sub (ws' := rW cI k0 km kr v) [4, 5, 6] rfl) (ci := 1) (q0 := 0) rfl rfl, fun U hU hW => ⟨rfl, lpreR hK hP hD U hU hW⟩⟩ rfl hn hsize hst (lv_room hr) hdg hf) hS (fun q _ h => rA_z hD hS.1 q h) (fun q h => rA_z hD hS.1 q h) (fun r z t H1 locs1 ht hvm hw hB hz hk hS1 => ?_)
  obtain ⟨hP1, -, hD1⟩ := hB
  rw [ht] at hP1
  obtain ⟨hP2, hD2⟩ := va_join (wr := [(h0, .inr (0, [.ref qme0, .ref qre1, .ref qco2, .int u.2.2.2.1, .int u.2.2.2.2.1, .int u.2.2.2.2.2])), (qme0, .inl (cI, 65536, .inl u.1)), (qre1, .inl (cI, 32, .inl u.2.1)), (qco2, .inl (cI, 9, .inl u.2.2.1)), (qo, .inl (cL, 1, .inr (.inl o)))]) (w1 := rW cI k0 km kr z) hP hD [4, 5, 6] [0, 1, 2, 3, 7] rfl rfl (by decide) (by decide) (fun q h1 h2 => hk q h1 (fun g => h2 (rA_va g))) hF hP1 (hD1.weaken (fun _ q _ h => rA_va h))
  exact kk (r, z) hw H1 locs1 (hP2.sub [0, 1, 2, 3, 5, 6, 7, 4] rfl) (hD2.sub [0, 1, 2, 3, 5, 6, 7, 4] (by decide) rfl) hS1
theorem lRV {f : RS} (S : CallFix p m c cc nL s args Ts own) (hM : Met l y ws rm (va_Pc (.ref k0 :: As) (rPre dC dI cI k0 km kr tN tB H.size v)) (va_Qv (fun z => z = f) (rB dC dI cI k0 km kr (rA k0 km kr H.size)) (rA k0 km kr H.size)) 0 0 (rA k0 km kr H.size)) (cw : CallW R s args own "PagedHartModel" index y bytes maxL ret ws rm 0 0 n)
    (hK : va_K (dC, dI) vwCl [(cI, .int), (cL, .long)] s) (hP : va_P (dC, dI) vwCl (lW cI cL h0 qme0 qre1 qco2 k0 km kr qo u v o) H) (hD : va_D (zA s.heap.size) (lW cI cL h0 qme0 qre1 qco2 k0 km kr qo u v o)) (hS : va_S (zA s.heap.size) s.heap H locs)
    (hn : As.length = n) (hsize : ls.size = nL) (hst : st0 = As.reverse ++ .ref k0 :: rest) (hr : (rest.map fun v => v.category).sum ≤ 8) (hdg : decode cc pc = .ok (.invokevirtual index, 3)) (hf : cells ≤ R.cells ∧ slots ≤ R.slots)
    (kk : ∀ (z : RS), z = f → ∀ (H : Heap) (locs : List Loc), va_P (dC, dI) vwCl (lW cI cL h0 qme0 qre1 qco2 k0 km kr qo u z o) H → va_D (zA s.heap.size) (lW cI cL h0 qme0 qre1 qco2 k0 km kr qo u z o) → va_S (zA s.heap.size) s.heap H locs → W p l e R s m args below meth c H locs cells slots Q (F0 m (pc + 3) ls rest)) : W p l e R s m args below meth c H locs cells slots Q (F0 m pc ls st0) := by
  have hF := va_free (wc := rW cI k0 km kr v) hD hS (fun _ h => h) [4, 5, 6] rfl
  refine va_callv (va_runV (As := As) (rest := rest) S hM cw ⟨rblind, va_recv (hK.sub (tys' := [(cI, .int)]) [0] rfl) (hP.sub (ws' := rW cI k0 km kr v) [4, 5, 6] rfl) (ci := 1) (q0 := 0) rfl rfl, fun U hU hW => ⟨rfl, lpreR hK hP hD U hU hW⟩⟩ rfl hn hsize hst (lv_room hr) hdg hf) hS (fun q _ h => rA_z hD hS.1 q h) (fun q h => rA_z hD hS.1 q h) (fun z t H1 locs1 ht hvm hw hB hz hk hS1 => ?_)
  obtain ⟨hP1, -, hD1⟩ := hB
  rw [ht] at hP1
  obtain ⟨hP2, hD2⟩ := va_join (wr := [(h0, .inr (0, [.ref qme0, .ref qre1, .ref qco2, .int u.2.2.2.1, .int u.2.2.2.2.1, .int u.2.2.2.2.2])), (qme0, .inl (cI, 65536, .inl u.1)), (qre1, .inl (cI, 32, .inl u.2.1)), (qco2, .inl (cI, 9, .inl u.2.2.1)), (qo, .inl (cL, 1, .inr (.inl o)))]) (w1 := rW cI k0 km kr z) hP hD [4, 5, 6] [0, 1, 2, 3, 7] rfl rfl (by decide) (by decide) (fun q h1 h2 => hk q h1 (fun g => h2 (rA_va g))) hF hP1 (hD1.weaken (fun _ q _ h => rA_va h))
  exact kk z hw H1 locs1 (hP2.sub [0, 1, 2, 3, 5, 6, 7, 4] rfl) (hD2.sub [0, 1, 2, 3, 5, 6, 7, 4] (by decide) rfl) hS1
theorem lRR {f : Int32} (S : CallFix p m c cc nL s args Ts own) (hM : Met l y ws rm (va_Pc (.ref k0 :: As) (rPre dC dI cI k0 km kr tN tB H.size v)) (QcRead f) 0 0 (fun _ => False)) (cw : CallW R s args own "PagedHartModel" index y bytes maxL ret ws rm 0 0 n)
    (hK : va_K (dC, dI) vwCl [(cI, .int), (cL, .long)] s) (hP : va_P (dC, dI) vwCl (lW cI cL h0 qme0 qre1 qco2 k0 km kr qo u v o) H) (hD : va_D (zA s.heap.size) (lW cI cL h0 qme0 qre1 qco2 k0 km kr qo u v o))
    (hn : As.length = n) (hsize : ls.size = nL) (hst : st0 = As.reverse ++ .ref k0 :: rest) (hr : (rest.map fun v => v.category).sum ≤ 8) (hdg : decode cc pc = .ok (.invokevirtual index, 3)) (hf : cells ≤ R.cells ∧ slots ≤ R.slots)
    (kk : W p l e R s m args below meth c H locs cells slots Q (F0 m (pc + 3) ls (.int f :: rest))) : W p l e R s m args below meth c H locs cells slots Q (F0 m pc ls st0) :=
  W.callR (W.runV (As := As) (rest := rest) S hM cw ⟨rblind, va_recv (hK.sub (tys' := [(cI, .int)]) [0] rfl) (hP.sub (ws' := rW cI k0 km kr v) [4, 5, 6] rfl) (ci := 1) (q0 := 0) rfl rfl, fun U hU hW => ⟨rfl, lpreR hK hP hD U hU hW⟩⟩ rfl hn hsize hst (lv_room hr) hdg hf) kk
theorem lGR {f : Int32} (S : CallFix p m c cc nL s args Ts own) (hM : Met l y ws rm (va_Pc (.ref h0 :: As) (gPre dC dI cI h0 qme0 qre1 qco2 tN tB H.size u)) (QcRead f) 0 0 (fun _ => False)) (cw : CallW R s args own "PagedHart" index y bytes maxL ret ws rm 0 0 n)
    (hK : va_K (dC, dI) vwCl [(cI, .int), (cL, .long)] s) (hP : va_P (dC, dI) vwCl (lW cI cL h0 qme0 qre1 qco2 k0 km kr qo u v o) H) (hD : va_D (zA s.heap.size) (lW cI cL h0 qme0 qre1 qco2 k0 km kr qo u v o)) (hS : va_S (zA s.heap.size) s.heap H locs) (hZ : gZ tN tB (zA s.heap.size) s s.heap)
    (hn : As.length = n) (hsize : ls.size = nL) (hst : st0 = As.reverse ++ .ref h0 :: rest) (hr : (rest.map fun v => v.category).sum ≤ 8) (hdg : decode cc pc = .ok (.invokevirtual index, 3)) (hf : cells ≤ R.cells ∧ slots ≤ R.slots)
    (kk : W p l e R s m args below meth c H locs cells slots Q (F0 m (pc + 3) ls (.int f :: rest))) : W p l e R s m args below meth c H locs cells slots Q (F0 m pc ls st0) :=
  W.callR (W.runV (As := As) (rest := rest) S hM cw ⟨gblind, va_recv (hK.sub (tys' := [(cI, .int)]) [0] rfl) (hP.sub (ws' := gW cI h0 qme0 qre1 qco2 u) [0, 1, 2, 3] rfl) (ci := 0) (q0 := 0) rfl rfl, fun U hU hW => ⟨rfl, lpreG hK hP hD hS hZ U hU hW⟩⟩ rfl hn hsize hst (lv_room hr) hdg hf) kk
end lsec
theorem gSW {own : String} {idx : Nat} {y : MethodName} {w : Cond} (h1 : Cond.methodLink own idx y ∈ gBIG) (h2 : Cond.static y ∈ gBIG) (h3 : Cond.initialized y.cls ∈ gBIG) (h5 : w ∈ gBIG) : GoodIn gBIG (va_wsS own idx y (w :: gBIG)) := gAll (gCons h1 (gCons h2 (gCons h3 (gCons h5 gSelf))))
/-! what both answers have to do with each other -/
theorem post_I {v : RS} {o : Nat → Int64} {f : Option (Int32 × HS)} {r : Int32 × RS} {k : Int32} {z : KS} (hk : kPostI (phi v) o f k z) (hp : PubI v f r) : r_thrown r.2 = k ∧ z.1 = phi r.2 ∧ (k = 0 → z.2 (0 : Int32).toNatClampNeg = r.1.toInt64) ∧ Inv (setTH r.2 0) := by
  obtain ⟨hp, hi⟩ := hp
  rcases hk with ⟨rfl, x, h1, h2⟩ | ⟨rfl, rfl, h1⟩
  · rcases hp with ⟨g1, g2, g3⟩ | ⟨g1, g2⟩
    · rw [g2] at h1; cases h1
    · rw [g2] at h1
      have h3 := Option.some.inj h1
      have e1 : x = r.1 := congrArg Prod.fst h3
      have e2 : z.1 = phi r.2 := congrArg Prod.snd h3
      refine ⟨g1, e2, fun _ => ?_, hi⟩
      rw [h2, e1]
      rfl
  · rcases hp with ⟨g1, g2, g3⟩ | ⟨g1, g2⟩
    · exact ⟨g1, g3.symm, fun q => absurd q (by decide), hi⟩
    · rw [g2] at h1; cases h1
theorem post_V {v : RS} {f : Option HS} {r : RS} {k : Int32} {z : HS} (hk : kPostV (phi v) f k z) (hp : PubV v f r) : r_thrown r = k ∧ z = phi r ∧ Inv (setTH r 0) := by
  obtain ⟨hp, hi⟩ := hp
  rcases hk with ⟨rfl, h1⟩ | ⟨rfl, rfl, h1⟩
  · rcases hp with ⟨g1, g2, g3⟩ | ⟨g1, g2⟩
    · rw [g2] at h1; cases h1
    · rw [g2] at h1
      exact ⟨g1, Option.some.inj h1, hi⟩
  · rcases hp with ⟨g1, g2, g3⟩ | ⟨g1, g2⟩
    · exact ⟨g1, g3.symm, hi⟩
    · rw [g2] at h1; cases h1
theorem lg_self (a : Int64) : lg_cmp a a = 0 := by
  unfold lg_cmp
  rw [if_neg (by simp), if_pos rfl]
theorem nI_add' (a b : Nat) : nI a + nI b = nI (a + b) := un_inj (by rw [un_add, un_nIm, un_nIm, un_nIm]; omega)
theorem lp_in {j L : Nat} (hL : L ≤ 3072) (hj : 6 * j ≤ L) : (Int32.ofNat L - 6 < nI (6 * j)) ↔ L < 6 * j + 6 := by
  rw [Int32.lt_iff_toInt_lt, un_int, un_int, un_sub, show un (Int32.ofNat L) = L from un_nI (n := L) (by omega), un_nI (n := 6 * j) (by omega), show un (6 : Int32) = 6 from rfl]
  split <;> split <;> omega
