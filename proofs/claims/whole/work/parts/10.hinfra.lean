
/-- Java's >>> on ints and longs, as the rows have them -/
def jush (x y : Int32) : Int32 := (x.toUInt32 >>> (y.toUInt32 &&& Int32.toUInt32 31)).toInt32
def jlush (x : Int64) (y : Int32) : Int64 := (x.toUInt64 >>> (y.toInt64.toUInt64 &&& Int64.toUInt64 63)).toInt64
theorem jq {v r : Int32} (h : v = r) : Outcome.returned (some (.int v)) = .returned (some (.int r)) := by rw [h]
theorem jnb {v : Int32} (h : v = 0 ∨ v = 1) : narrow .boolean (.int v) = .int v := by rcases h with rfl | rfl <;> rfl
theorem jfb {v : Int32} (h : v = 0 ∨ v = 1) : fits .boolean (.int v) = true := by rcases h with rfl | rfl <;> rfl
theorem jin {i : Int32} {n : Nat} (h : decide (i < 0 ∨ n ≤ i.toNatClampNeg) = false) : vp_in i n := of_decide_eq_false h
theorem jblind {av : List Value} : FrameBlind (va_Pc av (fun _ => True)) := fun _ _ _ _ q => ⟨q.1, trivial⟩
section JG
variable {p : Program} {l : Launch} {e : Env} {R : Room} {s : State} {m : MethodId} {args : Array Value} {below : List Frame} {meth : Method} {c : Code} {H : Heap} {locs : List Loc} {cells slots : Nat} {Q : State → Prop} {g : JFrame}
theorem jgo {P : Heap → List Loc → Prop} (h : P H locs) (k : ∀ (H : Heap) (locs : List Loc), P H locs → W p l e R s m args below meth c H locs cells slots Q g) : W p l e R s m args below meth c H locs cells slots Q g := k H locs h
theorem jjoin {pc J : Nat} {ls : Array Slot} {rest st0 : List Value} {EX : Int32} (k : ∀ x : Int32, x = EX → W p l e R s m args below meth c H locs cells slots Q (F0 m J ls (.int x :: rest))) (seg : (∀ x : Int32, x = EX → W p l e R s m args below meth c H locs cells slots Q (F0 m J ls (.int x :: rest))) → W p l e R s m args below meth c H locs cells slots Q (F0 m pc ls st0)) : W p l e R s m args below meth c H locs cells slots Q (F0 m pc ls st0) := seg k
def QlRead (r : Int64) : Array Value → State → Outcome → State → Prop := fun _ st o t => o = .returned (some (.long r)) ∧ t.heap = st.heap
theorem jql {v r : Int64} (h : v = r) : Outcome.returned (some (.long v)) = .returned (some (.long r)) := by rw [h]
theorem jcallRl {r : Int64} {a : Array Value} {rest st0 : List Value} {pc : Nat} {ls : Array Slot} (hr : CallRun p l e R s m args below meth c H locs cells slots 0 0 (F0 m pc ls st0) rest (QlRead r a) (fun _ => False)) (kk : W p l e R s m args below meth c H locs cells slots Q (F0 m (pc + 3) ls (.long r :: rest))) : W p l e R s m args below meth c H locs cells slots Q (F0 m pc ls st0) := by
  intro T hT X
  obtain ⟨v, st₀, t, T', L, h0, X', hL, e1, ⟨hv, hh⟩, st⟩ := hr T hT X
  cases hv
  obtain ⟨t2, a1, b1⟩ := kk T' (by rw [e1, hh, h0]) (Stand.forget X' (fun q h => (hL q h).elim))
  exact ⟨t2, st t2 a1, b1⟩
end JG
/-- the static tables: CONTROL_NUMBERS, CONTROL_BITS -/
def hNum (j : Nat) : Int32 := [256, 261, 320, 321, 322, 323, 384, 1472, 1473].getD j 0
def hBit (j : Nat) : Int32 := [262400, -4, -1, -4, -1, -1, -1, -1, -1].getD j 0

/-- the state of the class: its fields in their order -/
abbrev HS : Type := (Nat → Int32) × (Nat → Int32) × (Nat → Int32) × Int32 × Int32 × Int32
def gA (h0 qme0 qre1 qco2 sz : Nat) : Nat → Prop := fun q => q = h0 ∨ q = qme0 ∨ q = qre1 ∨ q = qco2 ∨ sz ≤ q
abbrev gW (cI h0 qme0 qre1 qco2 : Nat) (u : HS) : va_W := [(h0, .inr (0, [.ref qme0, .ref qre1, .ref qco2, .int u.2.2.2.1, .int u.2.2.2.2.1, .int u.2.2.2.2.2])), (qme0, .inl (cI, 65536, .inl u.1)), (qre1, .inl (cI, 32, .inl u.2.1)), (qco2, .inl (cI, 9, .inl u.2.2.1))]
/-- the static tables, at addresses that no method's cells are -/
def gZ (tN tB : Nat) (A : Nat → Prop) (U : State) (H : Heap) : Prop := va_Z "PagedHart" "CONTROL_NUMBERS" "[I" (.ref tN) A U H ∧ va_T .int tN 9 (fun j => .int (hNum j)) A U H ∧ va_Z "PagedHart" "CONTROL_BITS" "[I" (.ref tB) A U H ∧ va_T .int tB 9 (fun j => .int (hBit j)) A U H
def gB (dC : Nat → ClassId) (dI : Nat → Nat → Nat) (cI h0 qme0 qre1 qco2 : Nat) (A : Nat → Prop) (u : HS) (t : State) : Prop := va_P (dC, dI) vwCl (gW cI h0 qme0 qre1 qco2 u) t.heap ∧ va_K (dC, dI) vwCl [(cI, .int)] t ∧ va_D A (gW cI h0 qme0 qre1 qco2 u)
def gPre (dC : Nat → ClassId) (dI : Nat → Nat → Nat) (cI h0 qme0 qre1 qco2 tN tB sz : Nat) (u : HS) : State → Prop := fun U => U.heap.size = sz ∧ va_P (dC, dI) vwCl (gW cI h0 qme0 qre1 qco2 u) U.heap ∧ va_K (dC, dI) vwCl [(cI, .int)] U ∧ va_D (fun _ => True) (gW cI h0 qme0 qre1 qco2 u) ∧ gZ tN tB (gA h0 qme0 qre1 qco2 sz) U U.heap
def gZp (tN tB : Nat) : State → Prop := fun U => gZ tN tB (fun _ => False) U U.heap
theorem gZ.moved {tN tB : Nat} {A : Nat → Prop} {u U : State} {H : Heap} (hvm : u.vm.Alike U.vm) (h : gZ tN tB A u H) : gZ tN tB A U H := ⟨h.1.moved hvm, h.2.1.moved hvm, h.2.2.1.moved hvm, h.2.2.2.moved hvm⟩
theorem gZ.kept {tN tB : Nat} {A : Nat → Prop} {U : State} {H H1 : Heap} (h : gZ tN tB A U H) (hq : ∀ a : Nat, a < H.size → ¬ A a → H1[a]? = H[a]?) : gZ tN tB A U H1 := ⟨h.1.kept hq, h.2.1.kept hq, h.2.2.1.kept hq, h.2.2.2.kept hq⟩
theorem gZ.narrow {tN tB : Nat} {A B : Nat → Prop} {U : State} {H : Heap} (h : gZ tN tB A U H) (hAB : ∀ q, B q → A q) : gZ tN tB B U H := ⟨h.1.narrow hAB, h.2.1.narrow hAB, h.2.2.1.narrow hAB, h.2.2.2.narrow hAB⟩
theorem gD {cI h0 qme0 qre1 qco2 sz : Nat} {u : HS} {A : Nat → Prop} (h : va_D A (gW cI h0 qme0 qre1 qco2 u)) : va_D (gA h0 qme0 qre1 qco2 sz) (gW cI h0 qme0 qre1 qco2 u) := by
  refine ⟨h.1, fun k q hk => ?_⟩
  have hm := List.mem_of_getElem? hk
  simp only [List.mem_cons, List.not_mem_nil, or_false] at hm
  unfold gA
  rcases hm with rfl | rfl | rfl | rfl <;> simp
theorem gDm {cI h0 qme0 qre1 qco2 a b : Nat} {u : HS} (h : va_D (gA h0 qme0 qre1 qco2 b) (gW cI h0 qme0 qre1 qco2 u)) : va_D (gA h0 qme0 qre1 qco2 a) (gW cI h0 qme0 qre1 qco2 u) := gD h
theorem gAm {h0 qme0 qre1 qco2 a b : Nat} (hab : a ≤ b) (q : Nat) (h : gA h0 qme0 qre1 qco2 b q) : gA h0 qme0 qre1 qco2 a q := by
  unfold gA at h ⊢
  omega
theorem gblind {av : List Value} {dC : Nat → ClassId} {dI : Nat → Nat → Nat} {cI h0 qme0 qre1 qco2 tN tB sz : Nat} {u : HS} : FrameBlind (va_Pc av (gPre dC dI cI h0 qme0 qre1 qco2 tN tB sz u)) := by
  intro a U g mk q
  obtain ⟨q0, q1, qP, qK, qD, qZ⟩ := q
  exact ⟨q0, q1, qP, va_K.moved (u := U) (U := U.calling g mk a) (Vm.Alike.refl U.vm) qK, qD, gZ.moved (u := U) (U := U.calling g mk a) (Vm.Alike.refl U.vm) qZ⟩
theorem gZblind {av : List Value} {tN tB : Nat} : FrameBlind (va_Pc av (gZp tN tB)) := by
  intro a U g mk q
  exact ⟨q.1, gZ.moved (u := U) (U := U.calling g mk a) (Vm.Alike.refl U.vm) q.2⟩
section gsec
variable {p : Program} {l : Launch} {e : Env} {R : Room} {s : State} {m : MethodId} {args : Array Value} {below : List Frame} {meth : Method} {c : Code} {H : Heap} {locs : List Loc} {cells slots : Nat} {Q : State → Prop}
variable {dC : Nat → ClassId} {dI : Nat → Nat → Nat} {cI h0 qme0 qre1 qco2 tN tB : Nat} {u : HS}
theorem gpreOf (hK : va_K (dC, dI) vwCl [(cI, .int)] s) (hP : va_P (dC, dI) vwCl (gW cI h0 qme0 qre1 qco2 u) H) (hD : va_D (gA h0 qme0 qre1 qco2 s.heap.size) (gW cI h0 qme0 qre1 qco2 u)) (hS : va_S (gA h0 qme0 qre1 qco2 s.heap.size) s.heap H locs) (hZ : gZ tN tB (gA h0 qme0 qre1 qco2 s.heap.size) s s.heap) (U : State) (hU : U.heap = H) (hW : s.WarmedH U.vm) : gPre dC dI cI h0 qme0 qre1 qco2 tN tB H.size u U :=
  ⟨by rw [hU], by rw [hU]; exact hP, va_K.moved hW.alike hK, hD.weaken (fun _ _ _ _ => trivial), by rw [hU]; exact ((hZ.moved hW.alike).kept hS.2.1).narrow (gAm hS.1)⟩
theorem gZpOf (hS : va_S (gA h0 qme0 qre1 qco2 s.heap.size) s.heap H locs) (hZ : gZ tN tB (gA h0 qme0 qre1 qco2 s.heap.size) s s.heap) (U : State) (hU : U.heap = H) (hW : s.WarmedH U.vm) : gZp tN tB U := by
  unfold gZp
  rw [hU]; exact ((hZ.moved hW.alike).kept hS.2.1).narrow (fun _ h => h.elim)
variable {y : MethodName} {bytes cc : ByteArray} {maxL nL n index pc : Nat} {ret : Option FieldType} {ws : List Cond} {rm : Room} {Ts : List Cond} {own : String} {As rest st0 : List Value} {ls : Array Slot}
theorem gR {f : Int32} (S : CallFix p m c cc nL s args Ts own) (hM : Met l y ws rm (va_Pc (.ref h0 :: As) (gPre dC dI cI h0 qme0 qre1 qco2 tN tB H.size u)) (QcRead f) 0 0 (fun _ => False)) (cw : CallW R s args own "PagedHart" index y bytes maxL ret ws rm 0 0 n)
    (hK : va_K (dC, dI) vwCl [(cI, .int)] s) (hP : va_P (dC, dI) vwCl (gW cI h0 qme0 qre1 qco2 u) H) (hD : va_D (gA h0 qme0 qre1 qco2 s.heap.size) (gW cI h0 qme0 qre1 qco2 u)) (hS : va_S (gA h0 qme0 qre1 qco2 s.heap.size) s.heap H locs) (hZ : gZ tN tB (gA h0 qme0 qre1 qco2 s.heap.size) s s.heap)
    (hn : As.length = n) (hsize : ls.size = nL) (hst : st0 = As.reverse ++ .ref h0 :: rest) (hr : (rest.map fun v => v.category).sum ≤ 8) (hdg : decode cc pc = .ok (.invokevirtual index, 3))
    (hf : cells ≤ R.cells ∧ slots ≤ R.slots)
    (kk : W p l e R s m args below meth c H locs cells slots Q (F0 m (pc + 3) ls (.int f :: rest))) : W p l e R s m args below meth c H locs cells slots Q (F0 m pc ls st0) :=
  W.callR (W.runV (As := As) (rest := rest) S hM cw ⟨gblind, va_recv hK hP (ci := 0) (q0 := 0) rfl rfl, fun U hU hW => ⟨rfl, gpreOf hK hP hD hS hZ U hU hW⟩⟩ rfl hn hsize hst (lv_room hr) hdg hf) kk
theorem gMi {f : Int32 × HS} (S : CallFix p m c cc nL s args Ts own) (hM : Met l y ws rm (va_Pc (.ref h0 :: As) (gPre dC dI cI h0 qme0 qre1 qco2 tN tB H.size u)) (va_Qi (fun r v => (r, v) = f) (gB dC dI cI h0 qme0 qre1 qco2 (gA h0 qme0 qre1 qco2 H.size)) (gA h0 qme0 qre1 qco2 H.size)) 0 0 (gA h0 qme0 qre1 qco2 H.size)) (cw : CallW R s args own "PagedHart" index y bytes maxL ret ws rm 0 0 n)
    (hK : va_K (dC, dI) vwCl [(cI, .int)] s) (hP : va_P (dC, dI) vwCl (gW cI h0 qme0 qre1 qco2 u) H) (hD : va_D (gA h0 qme0 qre1 qco2 s.heap.size) (gW cI h0 qme0 qre1 qco2 u)) (hS : va_S (gA h0 qme0 qre1 qco2 s.heap.size) s.heap H locs) (hZ : gZ tN tB (gA h0 qme0 qre1 qco2 s.heap.size) s s.heap)
    (hn : As.length = n) (hsize : ls.size = nL) (hst : st0 = As.reverse ++ .ref h0 :: rest) (hr : (rest.map fun v => v.category).sum ≤ 8) (hdg : decode cc pc = .ok (.invokevirtual index, 3))
    (hf : cells ≤ R.cells ∧ slots ≤ R.slots)
    (kk : ∀ (z : Int32 × HS), z = f → ∀ (H : Heap) (locs : List Loc), va_P (dC, dI) vwCl (gW cI h0 qme0 qre1 qco2 z.2) H → va_D (gA h0 qme0 qre1 qco2 s.heap.size) (gW cI h0 qme0 qre1 qco2 z.2) → va_S (gA h0 qme0 qre1 qco2 s.heap.size) s.heap H locs → W p l e R s m args below meth c H locs cells slots Q (F0 m (pc + 3) ls (.int z.1 :: rest))) : W p l e R s m args below meth c H locs cells slots Q (F0 m pc ls st0) := by
  refine va_calli (va_runV (As := As) (rest := rest) S hM cw ⟨gblind, va_recv hK hP (ci := 0) (q0 := 0) rfl rfl, fun U hU hW => ⟨rfl, gpreOf hK hP hD hS hZ U hU hW⟩⟩ rfl hn hsize hst (lv_room hr) hdg hf) hS (fun q _ h => gAm hS.1 q h) (fun q h => gAm hS.1 q h) (fun r v t H1 locs1 ht hvm hw hB hz hk hS1 => ?_)
  obtain ⟨hP1, -, hD1⟩ := hB
  rw [ht] at hP1
  exact kk (r, v) hw H1 locs1 hP1 (gDm hD1) hS1
theorem gMv {f : HS} (S : CallFix p m c cc nL s args Ts own) (hM : Met l y ws rm (va_Pc (.ref h0 :: As) (gPre dC dI cI h0 qme0 qre1 qco2 tN tB H.size u)) (va_Qv (fun v => v = f) (gB dC dI cI h0 qme0 qre1 qco2 (gA h0 qme0 qre1 qco2 H.size)) (gA h0 qme0 qre1 qco2 H.size)) 0 0 (gA h0 qme0 qre1 qco2 H.size)) (cw : CallW R s args own "PagedHart" index y bytes maxL ret ws rm 0 0 n)
    (hK : va_K (dC, dI) vwCl [(cI, .int)] s) (hP : va_P (dC, dI) vwCl (gW cI h0 qme0 qre1 qco2 u) H) (hD : va_D (gA h0 qme0 qre1 qco2 s.heap.size) (gW cI h0 qme0 qre1 qco2 u)) (hS : va_S (gA h0 qme0 qre1 qco2 s.heap.size) s.heap H locs) (hZ : gZ tN tB (gA h0 qme0 qre1 qco2 s.heap.size) s s.heap)
    (hn : As.length = n) (hsize : ls.size = nL) (hst : st0 = As.reverse ++ .ref h0 :: rest) (hr : (rest.map fun v => v.category).sum ≤ 8) (hdg : decode cc pc = .ok (.invokevirtual index, 3))
    (hf : cells ≤ R.cells ∧ slots ≤ R.slots)
    (kk : ∀ (z : HS), z = f → ∀ (H : Heap) (locs : List Loc), va_P (dC, dI) vwCl (gW cI h0 qme0 qre1 qco2 z) H → va_D (gA h0 qme0 qre1 qco2 s.heap.size) (gW cI h0 qme0 qre1 qco2 z) → va_S (gA h0 qme0 qre1 qco2 s.heap.size) s.heap H locs → W p l e R s m args below meth c H locs cells slots Q (F0 m (pc + 3) ls rest)) : W p l e R s m args below meth c H locs cells slots Q (F0 m pc ls st0) := by
  refine va_callv (va_runV (As := As) (rest := rest) S hM cw ⟨gblind, va_recv hK hP (ci := 0) (q0 := 0) rfl rfl, fun U hU hW => ⟨rfl, gpreOf hK hP hD hS hZ U hU hW⟩⟩ rfl hn hsize hst (lv_room hr) hdg hf) hS (fun q _ h => gAm hS.1 q h) (fun q h => gAm hS.1 q h) (fun v t H1 locs1 ht hvm hw hB hz hk hS1 => ?_)
  obtain ⟨hP1, -, hD1⟩ := hB
  rw [ht] at hP1
  exact kk v hw H1 locs1 hP1 (gDm hD1) hS1
theorem gIret {v : Int32} {f : Int32 × HS} (hx : p.tables.exec = Jvm.exec) (hb : c.code = cc) (hr : meth.sig.returnType = some .int) (hlocks : meth.locks = false) (hq : (v, u) = f) (hK : va_K (dC, dI) vwCl [(cI, .int)] s) (hP : va_P (dC, dI) vwCl (gW cI h0 qme0 qre1 qco2 u) H) (hD : va_D (gA h0 qme0 qre1 qco2 s.heap.size) (gW cI h0 qme0 qre1 qco2 u)) (hS : va_S (gA h0 qme0 qre1 qco2 s.heap.size) s.heap H locs) (hdg : decode cc pc = .ok (.ireturn, 1)) :
    W p l e R s m args below meth c H locs cells slots (MQ below (va_Qi (fun r v => (r, v) = f) (gB dC dI cI h0 qme0 qre1 qco2 (gA h0 qme0 qre1 qco2 s.heap.size)) (gA h0 qme0 qre1 qco2 s.heap.size)) args s cells slots (gA h0 qme0 qre1 qco2 s.heap.size)) (F0 m pc ls [.int v]) :=
  W.iret (v := v) hx hb hr (fun t ht hW => ⟨⟨v, u, rfl, hq, by rw [ht]; exact hP, va_K.moved hW.alike hK, hD⟩, hS.F ht⟩) hS.2.2 hdg hlocks
theorem gZret {v : Int32} {f : Int32 × HS} (hx : p.tables.exec = Jvm.exec) (hb : c.code = cc) (hr : meth.sig.returnType = some .boolean) (hlocks : meth.locks = false) (hn : narrow .boolean (.int v) = .int v) (hq : (v, u) = f) (hK : va_K (dC, dI) vwCl [(cI, .int)] s) (hP : va_P (dC, dI) vwCl (gW cI h0 qme0 qre1 qco2 u) H) (hD : va_D (gA h0 qme0 qre1 qco2 s.heap.size) (gW cI h0 qme0 qre1 qco2 u)) (hS : va_S (gA h0 qme0 qre1 qco2 s.heap.size) s.heap H locs) (hdg : decode cc pc = .ok (.ireturn, 1)) :
    W p l e R s m args below meth c H locs cells slots (MQ below (va_Qi (fun r v => (r, v) = f) (gB dC dI cI h0 qme0 qre1 qco2 (gA h0 qme0 qre1 qco2 s.heap.size)) (gA h0 qme0 qre1 qco2 s.heap.size)) args s cells slots (gA h0 qme0 qre1 qco2 s.heap.size)) (F0 m pc ls [.int v]) :=
  W.zret (v := v) hx hb hr hn (fun t ht hW => ⟨⟨v, u, rfl, hq, by rw [ht]; exact hP, va_K.moved hW.alike hK, hD⟩, hS.F ht⟩) hS.2.2 hdg hlocks
theorem gVret {f : HS} (hx : p.tables.exec = Jvm.exec) (hb : c.code = cc) (hr : meth.sig.returnType = none) (hlocks : meth.locks = false) (hq : u = f) (hK : va_K (dC, dI) vwCl [(cI, .int)] s) (hP : va_P (dC, dI) vwCl (gW cI h0 qme0 qre1 qco2 u) H) (hD : va_D (gA h0 qme0 qre1 qco2 s.heap.size) (gW cI h0 qme0 qre1 qco2 u)) (hS : va_S (gA h0 qme0 qre1 qco2 s.heap.size) s.heap H locs) (hdg : decode cc pc = .ok (.return_, 1)) :
    W p l e R s m args below meth c H locs cells slots (MQ below (va_Qv (fun v => v = f) (gB dC dI cI h0 qme0 qre1 qco2 (gA h0 qme0 qre1 qco2 s.heap.size)) (gA h0 qme0 qre1 qco2 s.heap.size)) args s cells slots (gA h0 qme0 qre1 qco2 s.heap.size)) (F0 m pc ls []) :=
  W.vret hx hb hr (fun t ht hW => ⟨⟨u, rfl, hq, by rw [ht]; exact hP, va_K.moved hW.alike hK, hD⟩, hS.F ht⟩) hS.2.2 hdg hlocks
end gsec
