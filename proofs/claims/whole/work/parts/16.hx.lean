
abbrev xD1 : Cond := .declares (Bundle.initS "java/lang/RuntimeException")
abbrev xD2 : Cond := .declares (Bundle.initS "java/lang/Exception")
abbrev xD3 : Cond := .declares (Bundle.initS "java/lang/Throwable")
def xB (E : String) (U : State) : Prop := va_Nw (.castable E E) U ∧ va_Nw xD1 U ∧ va_Nw xD2 U ∧ va_Nw xD3 U
/-- what a throw wants beside the tables' good words -/
def gX (E text : String) (is sa : Nat) (A : Nat → Prop) (U : State) (H : Heap) : Prop := vx_Zq Bundle.tN "UNASSIGNED_STACK" Bundle.steD A U H ∧ vx_Zq Bundle.tN "SUPPRESSED_SENTINEL" Bundle.listD A U H ∧ xB E U ∧ vk_R "PagedHart" is text sa U
def gPreX (E text : String) (is sa : Nat) (dC : Nat → ClassId) (dI : Nat → Nat → Nat) (cI h0 qme0 qre1 qco2 tN tB sz : Nat) (u : HS) : State → Prop := fun U => gPre dC dI cI h0 qme0 qre1 qco2 tN tB sz u U ∧ gX E text is sa (gA h0 qme0 qre1 qco2 sz) U U.heap
theorem gX.warm {E text : String} {is sa : Nat} {A : Nat → Prop} {s U : State} {H : Heap} (hW : s.WarmedH U.vm) (h : gX E text is sa A s H) : gX E text is sa A U H := ⟨vx_Zq.moved hW.alike h.1, vx_Zq.moved hW.alike h.2.1, ⟨va_Nw.warmC hW h.2.2.1.1, va_Nw.warmD hW h.2.2.1.2.1, va_Nw.warmD hW h.2.2.1.2.2.1, va_Nw.warmD hW h.2.2.1.2.2.2⟩, vk_R.warm hW h.2.2.2⟩
theorem gX.kept {E text : String} {is sa : Nat} {A : Nat → Prop} {U : State} {H H1 : Heap} (h : gX E text is sa A U H) (hq : ∀ a : Nat, a < H.size → ¬ A a → H1[a]? = H[a]?) : gX E text is sa A U H1 := ⟨h.1.kept hq, h.2.1.kept hq, h.2.2⟩
theorem gX.narrow {E text : String} {is sa : Nat} {A B : Nat → Prop} {U : State} {H : Heap} (h : gX E text is sa A U H) (hAB : ∀ q, B q → A q) : gX E text is sa B U H := ⟨h.1.narrow hAB, h.2.1.narrow hAB, h.2.2⟩
theorem gX.same {E text : String} {is sa : Nat} {A : Nat → Prop} {s U : State} {H : Heap} (hv : U.vm = s.vm) (h : gX E text is sa A s H) : gX E text is sa A U H := ⟨vx_Zq.moved (by rw [hv]; exact Vm.Alike.refl _) h.1, vx_Zq.moved (by rw [hv]; exact Vm.Alike.refl _) h.2.1, ⟨va_Nw.same rfl hv.symm h.2.2.1.1, va_Nw.same rfl hv.symm h.2.2.1.2.1, va_Nw.same rfl hv.symm h.2.2.1.2.2.1, va_Nw.same rfl hv.symm h.2.2.1.2.2.2⟩, vk_R.same hv h.2.2.2⟩
theorem gXblind {av : List Value} {E text : String} {is sa : Nat} {dC : Nat → ClassId} {dI : Nat → Nat → Nat} {cI h0 qme0 qre1 qco2 tN tB sz : Nat} {u : HS} : FrameBlind (va_Pc av (gPreX E text is sa dC dI cI h0 qme0 qre1 qco2 tN tB sz u)) := by
  intro a U g mk q
  obtain ⟨q0, q1, q2⟩ := q
  exact ⟨q0, (gblind (av := av) a U g mk ⟨q0, q1⟩).2, gX.same (s := U) (U := U.calling g mk a) rfl q2⟩
abbrev xNames : List String := ["java/lang/RuntimeException", "java/lang/Exception"]
section gxsec
variable {p : Program} {l : Launch} {e : Env} {R : Room} {s : State} {m : MethodId} {args : Array Value} {below : List Frame} {meth : Method} {c : Code} {H : Heap} {locs : List Loc} {cells slots : Nat} {Q : State → Prop}
variable {dC : Nat → ClassId} {dI : Nat → Nat → Nat} {cI h0 qme0 qre1 qco2 tN tB : Nat} {u : HS}
variable {cc : ByteArray} {maxL nL n index pc : Nat} {rest st0 : List Value} {ls : Array Slot}
theorem gXpreOf {E text : String} {is sa : Nat} (hK : va_K (dC, dI) vwCl [(cI, .int)] s) (hP : va_P (dC, dI) vwCl (gW cI h0 qme0 qre1 qco2 u) H) (hD : va_D (gA h0 qme0 qre1 qco2 s.heap.size) (gW cI h0 qme0 qre1 qco2 u)) (hS : va_S (gA h0 qme0 qre1 qco2 s.heap.size) s.heap H locs) (hZ : gZ tN tB (gA h0 qme0 qre1 qco2 s.heap.size) s s.heap) (hX : gX E text is sa (gA h0 qme0 qre1 qco2 s.heap.size) s s.heap) (U : State) (hU : U.heap = H) (hW : s.WarmedH U.vm) : gPreX E text is sa dC dI cI h0 qme0 qre1 qco2 tN tB H.size u U :=
  ⟨gpreOf hK hP hD hS hZ U hU hW, by rw [hU]; exact ((hX.warm hW).kept hS.2.1).narrow (gAm hS.1)⟩
set_option maxHeartbeats 4000000 in
theorem gThrow {E text : String} {ik is ic sa : Nat} {Qc : Array Value → State → Outcome → State → Prop} {P : Prop} (hnt : l.stackTraces = false) (hfit : Bundle.fit E = true)
    (hts : ∀ w ∈ gBIG, w.before args s = true) (hk : Cond.classLink "PagedHart" ik E ∈ gBIG) (hi : Cond.initialized E ∈ gBIG)
    (hat : ∀ w ∈ vx_atS "PagedHart" ic E xNames, (w ∈ lw_tbl ∧ goodWord w = true) ∨ w = .castable E E ∨ w = xD1 ∨ w = xD2 ∨ w = xD3) (hgood : ∀ w ∈ Cond.classLink "PagedHart" ik E :: Cond.initialized E :: vx_atS "PagedHart" ic E xNames, vx_ot w = true)
    (hx : p.tables.exec = Jvm.exec) (hb : c.code = cc) (hml : c.maxLocals = nL) (hown : s.vm.findClass "PagedHart" = some m.cls) (hlocks : meth.locks = false) (htb : ∀ x ∈ c.exceptionTable.toList, False) (hsize : ls.size = nL)
    (hK : va_K (dC, dI) vwCl [(cI, .int)] s) (hP : va_P (dC, dI) vwCl (gW cI h0 qme0 qre1 qco2 u) H) (hD : va_D (gA h0 qme0 qre1 qco2 s.heap.size) (gW cI h0 qme0 qre1 qco2 u)) (hS : va_S (gA h0 qme0 qre1 qco2 s.heap.size) s.heap H locs) (hX : gX E text is sa (gA h0 qme0 qre1 qco2 s.heap.size) s s.heap)
    (d0 : decode cc pc = .ok (.new ik, 3)) (d3 : decode cc (pc + 3) = .ok (.dup, 1)) (d4 : decode cc (pc + 4) = .ok (.ldc is, 2)) (d6 : decode cc (pc + 6) = .ok (.invokespecial ic, 3)) (d9 : decode cc (pc + 9) = .ok (.athrow, 1))
    (hRf : 6 ≤ R.frames) (hRl : 90 ≤ R.locals) (hRc : 1 ≤ R.cells) (hRs : 6 ≤ R.slots) (hp : P) :
    W p l e R s m args below meth c H locs 0 0 (vx_MQ below Qc (vx_X (fun v : HS => v = u ∧ P) (fun E' v t => E' = E ∧ gB dC dI cI h0 qme0 qre1 qco2 (gA h0 qme0 qre1 qco2 s.heap.size) v t) (gA h0 qme0 qre1 qco2 s.heap.size)) args s 1 6 (gA h0 qme0 qre1 qco2 s.heap.size)) (F0 m pc ls []) := by
  refine vx_throwS (A := gA h0 qme0 qre1 qco2 s.heap.size) (names := xNames) (sa := sa) (text := text) hx hb hnt hown hfit (by decide) (hts _ hk) (hts _ hi) hX.2.2.2 (fun w hw => ?_) hgood hX.1 hX.2.1 hS (hsize.trans hml.symm) d0 d3 d4 d6 d9 (fun x h => (htb x h).elim) (by show 2 + 3 < R.frames; omega) (by show 0 + (13 * (2 + 1) + 43) ≤ R.locals; omega) (by omega) (by omega) hlocks (fun t hvm hz hk => ?_) hS.2.2 (by omega) (by omega)
  · rcases hat w hw with h | h | h | h | h
    · exact hts w (List.mem_filter.mpr h)
    · rw [h]; exact va_Nw.use rfl hX.2.2.1.1
    · rw [h]; exact va_Nw.use rfl hX.2.2.1.2.1
    · rw [h]; exact va_Nw.use rfl hX.2.2.1.2.2.1
    · rw [h]; exact va_Nw.use rfl hX.2.2.1.2.2.2
  · have hP1 : va_P (dC, dI) vwCl (gW cI h0 qme0 qre1 qco2 u) t.heap := hP.kept (fun k q hq => hk q.1 ((hP k q hq).lt))
    exact ⟨u, ⟨rfl, hp⟩, ⟨rfl, hP1, va_K.moved hvm hK, hD⟩, Nat.le_trans hS.1 hz, fun q h1 h2 => by rw [hk q (Nat.lt_of_lt_of_le h1 hS.1)]; exact hS.2.1 q h1 h2⟩
theorem gIretX {v : Int32} {f : Option (Int32 × HS)} {XC : String → State → State → Prop} (hx : p.tables.exec = Jvm.exec) (hb : c.code = cc) (hr : meth.sig.returnType = some .int) (hlocks : meth.locks = false) (hq : some (v, u) = f) (hK : va_K (dC, dI) vwCl [(cI, .int)] s) (hP : va_P (dC, dI) vwCl (gW cI h0 qme0 qre1 qco2 u) H) (hD : va_D (gA h0 qme0 qre1 qco2 s.heap.size) (gW cI h0 qme0 qre1 qco2 u)) (hS : va_S (gA h0 qme0 qre1 qco2 s.heap.size) s.heap H locs) (hdg : decode cc pc = .ok (.ireturn, 1)) :
    W p l e R s m args below meth c H locs 0 0 (vx_MQ below (va_Qi (fun r v => some (r, v) = f) (gB dC dI cI h0 qme0 qre1 qco2 (gA h0 qme0 qre1 qco2 s.heap.size)) (gA h0 qme0 qre1 qco2 s.heap.size)) XC args s 1 6 (gA h0 qme0 qre1 qco2 s.heap.size)) (F0 m pc ls [.int v]) :=
  vx_ret (W.widen (k := 1) (n := 6) (by omega) (by omega) (W.iret (v := v) hx hb hr (fun t ht hW => ⟨⟨v, u, rfl, hq, by rw [ht]; exact hP, va_K.moved hW.alike hK, hD⟩, hS.F ht⟩) hS.2.2 hdg hlocks))
theorem gVretX {f : Option HS} {XC : String → State → State → Prop} (hx : p.tables.exec = Jvm.exec) (hb : c.code = cc) (hr : meth.sig.returnType = none) (hlocks : meth.locks = false) (hq : some u = f) (hK : va_K (dC, dI) vwCl [(cI, .int)] s) (hP : va_P (dC, dI) vwCl (gW cI h0 qme0 qre1 qco2 u) H) (hD : va_D (gA h0 qme0 qre1 qco2 s.heap.size) (gW cI h0 qme0 qre1 qco2 u)) (hS : va_S (gA h0 qme0 qre1 qco2 s.heap.size) s.heap H locs) (hdg : decode cc pc = .ok (.return_, 1)) :
    W p l e R s m args below meth c H locs 0 0 (vx_MQ below (va_Qv (fun v => some v = f) (gB dC dI cI h0 qme0 qre1 qco2 (gA h0 qme0 qre1 qco2 s.heap.size)) (gA h0 qme0 qre1 qco2 s.heap.size)) XC args s 1 6 (gA h0 qme0 qre1 qco2 s.heap.size)) (F0 m pc ls []) :=
  vx_ret (W.widen (k := 1) (n := 6) (by omega) (by omega) (W.vret hx hb hr (fun t ht hW => ⟨⟨u, rfl, hq, by rw [ht]; exact hP, va_K.moved hW.alike hK, hD⟩, hS.F ht⟩) hS.2.2 hdg hlocks))
end gxsec
set_option maxRecDepth 100000 in
theorem xa_35 : ∀ w ∈ vx_atS "PagedHart" 35 "java/lang/IllegalArgumentException" xNames, (w ∈ lw_tbl ∧ goodWord w = true) ∨ w = .castable "java/lang/IllegalArgumentException" "java/lang/IllegalArgumentException" ∨ w = xD1 ∨ w = xD2 ∨ w = xD3 := by decide +kernel
set_option maxRecDepth 100000 in
theorem xg_35 : ∀ w ∈ Cond.classLink "PagedHart" 31 "java/lang/IllegalArgumentException" :: Cond.initialized "java/lang/IllegalArgumentException" :: vx_atS "PagedHart" 35 "java/lang/IllegalArgumentException" xNames, vx_ot w = true := by decide +kernel
set_option maxRecDepth 100000 in
theorem xa_49 : ∀ w ∈ vx_atS "PagedHart" 49 "java/lang/IndexOutOfBoundsException" xNames, (w ∈ lw_tbl ∧ goodWord w = true) ∨ w = .castable "java/lang/IndexOutOfBoundsException" "java/lang/IndexOutOfBoundsException" ∨ w = xD1 ∨ w = xD2 ∨ w = xD3 := by decide +kernel
set_option maxRecDepth 100000 in
theorem xg_49 : ∀ w ∈ Cond.classLink "PagedHart" 45 "java/lang/IndexOutOfBoundsException" :: Cond.initialized "java/lang/IndexOutOfBoundsException" :: vx_atS "PagedHart" 49 "java/lang/IndexOutOfBoundsException" xNames, vx_ot w = true := by decide +kernel
