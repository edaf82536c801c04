/-! the law's helpers -/
def kA (h0 qme0 qre1 qco2 qo sz : Nat) : Nat → Prop := fun q => q = qo ∨ gA h0 qme0 qre1 qco2 sz q
abbrev kW (cI cL h0 qme0 qre1 qco2 qo : Nat) (u : HS) (o : Nat → Int64) : va_W := [(h0, .inr (0, [.ref qme0, .ref qre1, .ref qco2, .int u.2.2.2.1, .int u.2.2.2.2.1, .int u.2.2.2.2.2])), (qme0, .inl (cI, 65536, .inl u.1)), (qre1, .inl (cI, 32, .inl u.2.1)), (qco2, .inl (cI, 9, .inl u.2.2.1)), (qo, .inl (cL, 1, .inr (.inl o)))]
abbrev KS : Type := HS × (Nat → Int64)
def kB (dC : Nat → ClassId) (dI : Nat → Nat → Nat) (cI cL h0 qme0 qre1 qco2 qo : Nat) (A : Nat → Prop) (z : KS) (t : State) : Prop := va_P (dC, dI) vwCl (kW cI cL h0 qme0 qre1 qco2 qo z.1 z.2) t.heap ∧ va_K (dC, dI) vwCl [(cI, .int), (cL, .long)] t ∧ va_D A (kW cI cL h0 qme0 qre1 qco2 qo z.1 z.2)
def kPre (E text : String) (is sa : Nat) (dC : Nat → ClassId) (dI : Nat → Nat → Nat) (cI cL h0 qme0 qre1 qco2 qo tN tB sz : Nat) (u : HS) (o : Nat → Int64) : State → Prop := fun U => U.heap.size = sz ∧ va_P (dC, dI) vwCl (kW cI cL h0 qme0 qre1 qco2 qo u o) U.heap ∧ va_K (dC, dI) vwCl [(cI, .int), (cL, .long)] U ∧ va_D (fun _ => True) (kW cI cL h0 qme0 qre1 qco2 qo u o) ∧ gZ tN tB (kA h0 qme0 qre1 qco2 qo sz) U U.heap ∧ gX E text is sa (kA h0 qme0 qre1 qco2 qo sz) U U.heap
theorem kAm {h0 qme0 qre1 qco2 qo a b : Nat} (hab : a ≤ b) (q : Nat) (h : kA h0 qme0 qre1 qco2 qo b q) : kA h0 qme0 qre1 qco2 qo a q := h.imp (fun x => x) (gAm hab q)
theorem kD {cI cL h0 qme0 qre1 qco2 qo sz : Nat} {u : HS} {o : Nat → Int64} {A : Nat → Prop} (h : va_D A (kW cI cL h0 qme0 qre1 qco2 qo u o)) : va_D (kA h0 qme0 qre1 qco2 qo sz) (kW cI cL h0 qme0 qre1 qco2 qo u o) := by
  refine ⟨h.1, fun k q hk => ?_⟩
  have hm := List.mem_of_getElem? hk
  simp only [List.mem_cons, List.not_mem_nil, or_false] at hm
  unfold kA gA
  rcases hm with rfl | rfl | rfl | rfl | rfl <;> simp
theorem gA_va {cI h0 qme0 qre1 qco2 sz q : Nat} {u : HS} (h : gA h0 qme0 qre1 qco2 sz q) : va_A (gW cI h0 qme0 qre1 qco2 u) sz q := by
  rcases h with rfl | rfl | rfl | rfl | h
  · exact Or.inl ⟨0, _, rfl⟩
  · exact Or.inl ⟨1, _, rfl⟩
  · exact Or.inl ⟨2, _, rfl⟩
  · exact Or.inl ⟨3, _, rfl⟩
  · exact Or.inr h
theorem kblind {av : List Value} {E text : String} {is sa : Nat} {dC : Nat → ClassId} {dI : Nat → Nat → Nat} {cI cL h0 qme0 qre1 qco2 qo tN tB sz : Nat} {u : HS} {o : Nat → Int64} : FrameBlind (va_Pc av (kPre E text is sa dC dI cI cL h0 qme0 qre1 qco2 qo tN tB sz u o)) := by
  intro a U g mk q
  obtain ⟨q0, q1, qP, qK, qD, qZ, qX⟩ := q
  exact ⟨q0, q1, qP, va_K.moved (u := U) (U := U.calling g mk a) (Vm.Alike.refl U.vm) qK, qD, gZ.moved (u := U) (U := U.calling g mk a) (Vm.Alike.refl U.vm) qZ, gX.same (s := U) (U := U.calling g mk a) rfl qX⟩
theorem kXpreOf {s : State} {H : Heap} {locs : List Loc} {dC : Nat → ClassId} {dI : Nat → Nat → Nat} {cI cL h0 qme0 qre1 qco2 qo tN tB : Nat} {u : HS} {o : Nat → Int64} {E text : String} {is sa : Nat} (hK : va_K (dC, dI) vwCl [(cI, .int), (cL, .long)] s) (hP : va_P (dC, dI) vwCl (kW cI cL h0 qme0 qre1 qco2 qo u o) H) (hD : va_D (kA h0 qme0 qre1 qco2 qo s.heap.size) (kW cI cL h0 qme0 qre1 qco2 qo u o)) (hS : va_S (kA h0 qme0 qre1 qco2 qo s.heap.size) s.heap H locs) (hZ : gZ tN tB (kA h0 qme0 qre1 qco2 qo s.heap.size) s s.heap) (hX : gX E text is sa (kA h0 qme0 qre1 qco2 qo s.heap.size) s s.heap) (U : State) (hU : U.heap = H) (hW : s.WarmedH U.vm) : gPreX E text is sa dC dI cI h0 qme0 qre1 qco2 tN tB H.size u U :=
  ⟨⟨by rw [hU], by rw [hU]; exact hP.sub [0, 1, 2, 3] rfl, va_K.moved hW.alike (hK.sub (tys' := [(cI, .int)]) [0] rfl), (hD.sub (ws' := gW cI h0 qme0 qre1 qco2 u) [0, 1, 2, 3] (by decide) rfl).weaken (fun _ _ _ _ => trivial), by rw [hU]; exact ((hZ.moved hW.alike).kept hS.2.1).narrow (fun q h => Or.inr (gAm hS.1 q h))⟩, by rw [hU]; exact ((hX.warm hW).kept hS.2.1).narrow (fun q h => Or.inr (gAm hS.1 q h))⟩
/-- what a helper with a place for the answer does -/
def kPostI (st : HS) (o : Nat → Int64) (f : Option (Int32 × HS)) (r : Int32) (z : KS) : Prop := (r = 0 ∧ ∃ x : Int32, some (x, z.1) = f ∧ z.2 = vp_updL o (0 : Int32).toNatClampNeg x.toInt64) ∨ (r = 1 ∧ z = (st, o) ∧ none = f)
def kPostV (st : HS) (f : Option HS) (r : Int32) (z : HS) : Prop := (r = 0 ∧ some z = f) ∨ (r = 1 ∧ z = st ∧ none = f)
set_option maxHeartbeats 4000000 in
set_option maxRecDepth 100000 in
theorem ck_run (l : Launch) (dC : Nat → ClassId) (dI : Nat → Nat → Nat) (cI cL h0 qme0 qre1 qco2 qo tN tB : Nat) (hnt : l.stackTraces = false) (sa sz : Nat) (st : HS) (o : Nat → Int64) (p1 : Int32) : Met l yXL_run (.codeWith yXL_run cXL_run 4 (some .int) [(0, 9, 12, 13)] :: gBIG) ({ frames := 7, cells := 1, slots := 6, locals := 166 }) (va_Pc [.ref h0, .int p1, .ref qo] (kPre "java/lang/IllegalArgumentException" "steps are 0 to 20000" 33 sa dC dI cI cL h0 qme0 qre1 qco2 qo tN tB sz st o)) (va_Qi (kPostI st o (h_run st p1)) (kB dC dI cI cL h0 qme0 qre1 qco2 qo (kA h0 qme0 qre1 qco2 qo sz)) (kA h0 qme0 qre1 qco2 qo sz)) 1 6 (kA h0 qme0 qre1 qco2 qo sz) := by
  refine va_MetW (cc := cXL_run) (maxL := 4) (ret := some .int) (hh := [(0, 9, 12, 13)]) (by decide) rfl ?_
  intro p e s m args below meth c s₁ B hml hv
  obtain ⟨rfl, hsz, hP, hK, hD0, hZ, hX⟩ := hv
  have hx := B.exec
  have hb := B.bytes
  have hr := B.returns
  have hts : ∀ w ∈ gBIG, w.before _ s = true := fun w h => atoms_spec (ws := (.codeWith yXL_run cXL_run 4 (some .int) [(0, 9, 12, 13)] :: gBIG)) B.pre w (List.mem_cons_of_mem _ h)
  have htb : c.exceptionTable.toList = tableOf [(0, 9, 12, 13)] := vx_table (x := yXL_run) B (atoms_spec (ws := (.codeWith yXL_run cXL_run 4 (some .int) [(0, 9, 12, 13)] :: gBIG)) B.pre _ List.mem_cons_self)
  have hown : s.vm.findClass "PagedHartLaw" = some m.cls := findClass_of_methodNamed B.named
  have hlocks := B.notSynchronized
  subst hsz
  have hD : va_D (kA h0 qme0 qre1 qco2 qo s.heap.size) (kW cI cL h0 qme0 qre1 qco2 qo st o) := kD hD0
  have hS : va_S (kA h0 qme0 qre1 qco2 qo s.heap.size) s.heap s.heap [] := va_S.rf
  have hP : va_P (dC, dI) vwCl (kW cI cL h0 qme0 qre1 qco2 qo st o) s.heap := hP
  have hl := lv_entry ([.ref h0, .int p1, .ref qo]) (n := 4) (Nat.le_of_ble_eq_true rfl)
  rw [lg_entry_eq]
  generalize (lg_sl ([.ref h0, .int p1, .ref qo]) ++ List.replicate (4 - (lg_sl ([.ref h0, .int p1, .ref qo])).length) Slot.unset).toArray = ls at hl ⊢
  refine jgo (P := fun H locs => va_P (dC, dI) vwCl (kW cI cL h0 qme0 qre1 qco2 qo st o) H ∧ va_S (kA h0 qme0 qre1 qco2 qo s.heap.size) s.heap H locs) ⟨hP, hS⟩ (fun H locs hPS => ?_)
  obtain ⟨hP, hS⟩ := hPS
  have hl : lv_has ls 4 [(0, .ref h0), (1, .int p1), (2, .ref qo)] := hl
  refine lv_aload_n hx hb dXL_run_0 rfl (lv_at hl 2 rfl) ?_
  refine lv_iconst (v := 0) hx hb dXL_run_1 (by decide) ?_
  have hA : ∀ q : Nat, s.heap.size ≤ q → kA h0 qme0 qre1 qco2 qo s.heap.size q := fun q h => Or.inr (Or.inr (Or.inr (Or.inr (Or.inr h))))
  have hPc := hP.sub (ws' := gW cI h0 qme0 qre1 qco2 st) [0, 1, 2, 3] rfl
  have hKc := hK.sub (tys' := [(cI, .int)]) [0] rfl
  have hFc := va_free (wc := gW cI h0 qme0 qre1 qco2 st) hD hS hA [0, 1, 2, 3] rfl
  refine lv_aload_n hx hb dXL_run_2 rfl (lv_at hl 0 rfl) ?_
  refine lv_iload_n hx hb dXL_run_3 rfl (lv_at hl 1 rfl) ?_
  refine vx_calli (vx_runV (As := [.int p1]) (rest := [.int 0, .ref qo]) ⟨hx, hb, hml, hown, hts⟩ (ch_run l dC dI cI h0 qme0 qre1 qco2 tN tB hnt sa H.size st p1) (cwV 1 hts (gV mL_L_7 mI_0_run mX_0_run mN_0 mB_0_run) rfl rfl rfl (by decide +kernel) ⟨Nat.le_of_ble_eq_true rfl, Nat.le_of_ble_eq_true rfl⟩) ⟨gXblind, va_recv hKc hPc (ci := 0) (q0 := 0) rfl rfl, fun U hU hW => ⟨rfl, kXpreOf hK hP hD hS hZ hX U hU hW⟩⟩ rfl rfl hl.1 rfl (lv_room (Nat.le_of_ble_eq_true rfl)) dXL_run_4 ⟨Nat.le_of_ble_eq_true rfl, Nat.le_of_ble_eq_true rfl⟩) hS (fun q _ h => Or.inr (gAm hS.1 q h)) (fun q h => Or.inr (gAm hS.1 q h)) (fun q _ h => Or.inr (gAm hS.1 q h)) (fun E ce q9 v t H1 locs ht hvm hpx hB hz hk hS hce hcv hcl => ?_) (fun x v t H1 locs ht hvm hw hB hz hk hS => ?_)
  · obtain ⟨rfl, hnone⟩ := hpx
    obtain ⟨rfl, hP1, -, hD1⟩ := hB
    rw [ht] at hP1
    obtain ⟨hP, hD⟩ := va_join (wr := [(qo, .inl (cL, 1, .inr (.inl o)))]) (w1 := gW cI h0 qme0 qre1 qco2 v) hP hD [0, 1, 2, 3] [4] rfl rfl (by decide) (by decide) (fun q h1 h2 => hk q h1 (fun g => h2 (gA_va g))) hFc hP1 (hD1.weaken (fun _ q _ h => gA_va h))
    have hP := hP.sub (ws' := kW cI cL h0 qme0 qre1 qco2 qo v o) [1, 2, 3, 4, 0] rfl
    have hD := hD.sub (ws' := kW cI cL h0 qme0 qre1 qco2 qo v o) [1, 2, 3, 4, 0] (by decide) rfl
    refine vx_catch (own := "PagedHartLaw") (name := "java/lang/IllegalArgumentException") hown [] ⟨0, 9, 12, 13⟩ [] htb (fun z h => nomatch h) (by decide) (by decide) (hts _ mK_L_13) (va_Nw.use rfl hX.2.2.1.1) hce hcv hcl ?_
    refine lv_astore_n (lv' := [(3, .ref q9), (0, .ref h0), (1, .int p1), (2, .ref qo)]) hx hb dXL_run_12 rfl hl (by decide) rfl (fun ls hl => ?_)
    refine lv_iconst (v := 1) hx hb dXL_run_13 (by decide) ?_
    refine W.widen (k := 1) (n := 6) (Nat.le_of_ble_eq_true rfl) (Nat.le_of_ble_eq_true rfl) ?_
    exact W.iret (v := 1) hx hb hr (fun t ht hW => ⟨⟨1, (v, o), rfl, Or.inr ⟨rfl, rfl, hnone⟩, by rw [ht]; exact hP, va_K.moved hW.alike hK, hD⟩, hS.F ht⟩) hS.2.2 dXL_run_14 hlocks
  · obtain ⟨hP1, -, hD1⟩ := hB
    rw [ht] at hP1
    obtain ⟨hP, hD⟩ := va_join (wr := [(qo, .inl (cL, 1, .inr (.inl o)))]) (w1 := gW cI h0 qme0 qre1 qco2 v) hP hD [0, 1, 2, 3] [4] rfl rfl (by decide) (by decide) (fun q h1 h2 => hk q h1 (fun g => h2 (gA_va g))) hFc hP1 (hD1.weaken (fun _ q _ h => gA_va h))
    refine lv_i2l hx hb dXL_run_7 rfl ?_
    refine va_last (D := (dC, dI)) hx hb hK hP hD hS 0 1 rfl rfl (jin (by decide)) dXL_run_8 (fun H locs hP hD hS => ?_)
    have hP := hP.sub (ws' := kW cI cL h0 qme0 qre1 qco2 qo v (vp_updL o (0 : Int32).toNatClampNeg x.toInt64)) [1, 2, 3, 4, 0] rfl
    have hD := hD.sub (ws' := kW cI cL h0 qme0 qre1 qco2 qo v (vp_updL o (0 : Int32).toNatClampNeg x.toInt64)) [1, 2, 3, 4, 0] (by decide) rfl
    refine lv_goto (tgt := 15) hx hb dXL_run_9 (by decide) ?_
    refine lv_iconst (v := 0) hx hb dXL_run_15 (by decide) ?_
    refine W.widen (k := 1) (n := 6) (Nat.le_of_ble_eq_true rfl) (Nat.le_of_ble_eq_true rfl) ?_
    exact W.iret (v := 0) hx hb hr (fun t ht hW => ⟨⟨0, (v, vp_updL o (0 : Int32).toNatClampNeg x.toInt64), rfl, Or.inl ⟨rfl, x, hw, rfl⟩, by rw [ht]; exact hP, va_K.moved hW.alike hK, hD⟩, hS.F ht⟩) hS.2.2 dXL_run_16 hlocks
set_option maxHeartbeats 4000000 in
set_option maxRecDepth 100000 in
theorem ck_peek (l : Launch) (dC : Nat → ClassId) (dI : Nat → Nat → Nat) (cI cL h0 qme0 qre1 qco2 qo tN tB : Nat) (hnt : l.stackTraces = false) (sa sz : Nat) (st : HS) (o : Nat → Int64) (p1 : Int32) : Met l yXL_peek (.codeWith yXL_peek cXL_peek 4 (some .int) [(0, 9, 12, 18)] :: gBIG) ({ frames := 7, cells := 1, slots := 6, locals := 111 }) (va_Pc [.ref h0, .int p1, .ref qo] (kPre "java/lang/IndexOutOfBoundsException" "no word of the memory" 47 sa dC dI cI cL h0 qme0 qre1 qco2 qo tN tB sz st o)) (va_Qi (kPostI st o (h_peek st p1)) (kB dC dI cI cL h0 qme0 qre1 qco2 qo (kA h0 qme0 qre1 qco2 qo sz)) (kA h0 qme0 qre1 qco2 qo sz)) 1 6 (kA h0 qme0 qre1 qco2 qo sz) := by
  refine va_MetW (cc := cXL_peek) (maxL := 4) (ret := some .int) (hh := [(0, 9, 12, 18)]) (by decide) rfl ?_
  intro p e s m args below meth c s₁ B hml hv
  obtain ⟨rfl, hsz, hP, hK, hD0, hZ, hX⟩ := hv
  have hx := B.exec
  have hb := B.bytes
  have hr := B.returns
  have hts : ∀ w ∈ gBIG, w.before _ s = true := fun w h => atoms_spec (ws := (.codeWith yXL_peek cXL_peek 4 (some .int) [(0, 9, 12, 18)] :: gBIG)) B.pre w (List.mem_cons_of_mem _ h)
  have htb : c.exceptionTable.toList = tableOf [(0, 9, 12, 18)] := vx_table (x := yXL_peek) B (atoms_spec (ws := (.codeWith yXL_peek cXL_peek 4 (some .int) [(0, 9, 12, 18)] :: gBIG)) B.pre _ List.mem_cons_self)
  have hown : s.vm.findClass "PagedHartLaw" = some m.cls := findClass_of_methodNamed B.named
  have hlocks := B.notSynchronized
  subst hsz
  have hD : va_D (kA h0 qme0 qre1 qco2 qo s.heap.size) (kW cI cL h0 qme0 qre1 qco2 qo st o) := kD hD0
  have hS : va_S (kA h0 qme0 qre1 qco2 qo s.heap.size) s.heap s.heap [] := va_S.rf
  have hP : va_P (dC, dI) vwCl (kW cI cL h0 qme0 qre1 qco2 qo st o) s.heap := hP
  have hl := lv_entry ([.ref h0, .int p1, .ref qo]) (n := 4) (Nat.le_of_ble_eq_true rfl)
  rw [lg_entry_eq]
  generalize (lg_sl ([.ref h0, .int p1, .ref qo]) ++ List.replicate (4 - (lg_sl ([.ref h0, .int p1, .ref qo])).length) Slot.unset).toArray = ls at hl ⊢
  refine jgo (P := fun H locs => va_P (dC, dI) vwCl (kW cI cL h0 qme0 qre1 qco2 qo st o) H ∧ va_S (kA h0 qme0 qre1 qco2 qo s.heap.size) s.heap H locs) ⟨hP, hS⟩ (fun H locs hPS => ?_)
  obtain ⟨hP, hS⟩ := hPS
  have hl : lv_has ls 4 [(0, .ref h0), (1, .int p1), (2, .ref qo)] := hl
  refine lv_aload_n hx hb dXL_peek_0 rfl (lv_at hl 2 rfl) ?_
  refine lv_iconst (v := 0) hx hb dXL_peek_1 (by decide) ?_
  have hA : ∀ q : Nat, s.heap.size ≤ q → kA h0 qme0 qre1 qco2 qo s.heap.size q := fun q h => Or.inr (Or.inr (Or.inr (Or.inr (Or.inr h))))
  have hPc := hP.sub (ws' := gW cI h0 qme0 qre1 qco2 st) [0, 1, 2, 3] rfl
  have hKc := hK.sub (tys' := [(cI, .int)]) [0] rfl
  have hFc := va_free (wc := gW cI h0 qme0 qre1 qco2 st) hD hS hA [0, 1, 2, 3] rfl
  refine lv_aload_n hx hb dXL_peek_2 rfl (lv_at hl 0 rfl) ?_
  refine lv_iload_n hx hb dXL_peek_3 rfl (lv_at hl 1 rfl) ?_
  refine vx_calli (vx_runV (As := [.int p1]) (rest := [.int 0, .ref qo]) ⟨hx, hb, hml, hown, hts⟩ (ch_peek l dC dI cI h0 qme0 qre1 qco2 tN tB hnt sa H.size st p1) (cwV 1 hts (gV mL_L_15 mI_0_peek mX_0_peek mN_0 mB_0_peek) rfl rfl rfl (by decide +kernel) ⟨Nat.le_of_ble_eq_true rfl, Nat.le_of_ble_eq_true rfl⟩) ⟨gXblind, va_recv hKc hPc (ci := 0) (q0 := 0) rfl rfl, fun U hU hW => ⟨rfl, kXpreOf hK hP hD hS hZ hX U hU hW⟩⟩ rfl rfl hl.1 rfl (lv_room (Nat.le_of_ble_eq_true rfl)) dXL_peek_4 ⟨Nat.le_of_ble_eq_true rfl, Nat.le_of_ble_eq_true rfl⟩) hS (fun q _ h => Or.inr (gAm hS.1 q h)) (fun q h => Or.inr (gAm hS.1 q h)) (fun q _ h => Or.inr (gAm hS.1 q h)) (fun E ce q9 v t H1 locs ht hvm hpx hB hz hk hS hce hcv hcl => ?_) (fun x v t H1 locs ht hvm hw hB hz hk hS => ?_)
  · obtain ⟨rfl, hnone⟩ := hpx
    obtain ⟨rfl, hP1, -, hD1⟩ := hB
    rw [ht] at hP1
    obtain ⟨hP, hD⟩ := va_join (wr := [(qo, .inl (cL, 1, .inr (.inl o)))]) (w1 := gW cI h0 qme0 qre1 qco2 v) hP hD [0, 1, 2, 3] [4] rfl rfl (by decide) (by decide) (fun q h1 h2 => hk q h1 (fun g => h2 (gA_va g))) hFc hP1 (hD1.weaken (fun _ q _ h => gA_va h))
    have hP := hP.sub (ws' := kW cI cL h0 qme0 qre1 qco2 qo v o) [1, 2, 3, 4, 0] rfl
    have hD := hD.sub (ws' := kW cI cL h0 qme0 qre1 qco2 qo v o) [1, 2, 3, 4, 0] (by decide) rfl
    refine vx_catch (own := "PagedHartLaw") (name := "java/lang/IndexOutOfBoundsException") hown [] ⟨0, 9, 12, 18⟩ [] htb (fun z h => nomatch h) (by decide) (by decide) (hts _ mK_L_18) (va_Nw.use rfl hX.2.2.1.1) hce hcv hcl ?_
    refine lv_astore_n (lv' := [(3, .ref q9), (0, .ref h0), (1, .int p1), (2, .ref qo)]) hx hb dXL_peek_12 rfl hl (by decide) rfl (fun ls hl => ?_)
    refine lv_iconst (v := 1) hx hb dXL_peek_13 (by decide) ?_
    refine W.widen (k := 1) (n := 6) (Nat.le_of_ble_eq_true rfl) (Nat.le_of_ble_eq_true rfl) ?_
    exact W.iret (v := 1) hx hb hr (fun t ht hW => ⟨⟨1, (v, o), rfl, Or.inr ⟨rfl, rfl, hnone⟩, by rw [ht]; exact hP, va_K.moved hW.alike hK, hD⟩, hS.F ht⟩) hS.2.2 dXL_peek_14 hlocks
  · obtain ⟨hP1, -, hD1⟩ := hB
    rw [ht] at hP1
    obtain ⟨hP, hD⟩ := va_join (wr := [(qo, .inl (cL, 1, .inr (.inl o)))]) (w1 := gW cI h0 qme0 qre1 qco2 v) hP hD [0, 1, 2, 3] [4] rfl rfl (by decide) (by decide) (fun q h1 h2 => hk q h1 (fun g => h2 (gA_va g))) hFc hP1 (hD1.weaken (fun _ q _ h => gA_va h))
    refine lv_i2l hx hb dXL_peek_7 rfl ?_
    refine va_last (D := (dC, dI)) hx hb hK hP hD hS 0 1 rfl rfl (jin (by decide)) dXL_peek_8 (fun H locs hP hD hS => ?_)
    have hP := hP.sub (ws' := kW cI cL h0 qme0 qre1 qco2 qo v (vp_updL o (0 : Int32).toNatClampNeg x.toInt64)) [1, 2, 3, 4, 0] rfl
    have hD := hD.sub (ws' := kW cI cL h0 qme0 qre1 qco2 qo v (vp_updL o (0 : Int32).toNatClampNeg x.toInt64)) [1, 2, 3, 4, 0] (by decide) rfl
    refine lv_goto (tgt := 15) hx hb dXL_peek_9 (by decide) ?_
    refine lv_iconst (v := 0) hx hb dXL_peek_15 (by decide) ?_
    refine W.widen (k := 1) (n := 6) (Nat.le_of_ble_eq_true rfl) (Nat.le_of_ble_eq_true rfl) ?_
    exact W.iret (v := 0) hx hb hr (fun t ht hW => ⟨⟨0, (v, vp_updL o (0 : Int32).toNatClampNeg x.toInt64), rfl, Or.inl ⟨rfl, x, hw, rfl⟩, by rw [ht]; exact hP, va_K.moved hW.alike hK, hD⟩, hS.F ht⟩) hS.2.2 dXL_peek_16 hlocks
set_option maxHeartbeats 4000000 in
set_option maxRecDepth 100000 in
theorem ck_poke (l : Launch) (dC : Nat → ClassId) (dI : Nat → Nat → Nat) (cI h0 qme0 qre1 qco2 tN tB : Nat) (hnt : l.stackTraces = false) (sa sz : Nat) (st : HS) (p1 : Int32) (p2 : Int32) : Met l yXL_poke (.codeWith yXL_poke cXL_poke 4 (some .int) [(0, 6, 9, 18)] :: gBIG) ({ frames := 7, cells := 1, slots := 6, locals := 112 }) (va_Pc [.ref h0, .int p1, .int p2] (gPreX "java/lang/IndexOutOfBoundsException" "no word of the memory" 47 sa dC dI cI h0 qme0 qre1 qco2 tN tB sz st)) (va_Qi (kPostV st (h_poke st p1 p2)) (gB dC dI cI h0 qme0 qre1 qco2 (gA h0 qme0 qre1 qco2 sz)) (gA h0 qme0 qre1 qco2 sz)) 1 6 (gA h0 qme0 qre1 qco2 sz) := by
  refine va_MetW (cc := cXL_poke) (maxL := 4) (ret := some .int) (hh := [(0, 6, 9, 18)]) (by decide) rfl ?_
  intro p e s m args below meth c s₁ B hml hv
  obtain ⟨rfl, ⟨hsz, hP, hK, hD0, hZ⟩, hX⟩ := hv
  have hx := B.exec
  have hb := B.bytes
  have hr := B.returns
  have hts : ∀ w ∈ gBIG, w.before _ s = true := fun w h => atoms_spec (ws := (.codeWith yXL_poke cXL_poke 4 (some .int) [(0, 6, 9, 18)] :: gBIG)) B.pre w (List.mem_cons_of_mem _ h)
  have htb : c.exceptionTable.toList = tableOf [(0, 6, 9, 18)] := vx_table (x := yXL_poke) B (atoms_spec (ws := (.codeWith yXL_poke cXL_poke 4 (some .int) [(0, 6, 9, 18)] :: gBIG)) B.pre _ List.mem_cons_self)
  have hown : s.vm.findClass "PagedHartLaw" = some m.cls := findClass_of_methodNamed B.named
  have hlocks := B.notSynchronized
  subst hsz
  have hD : va_D (gA h0 qme0 qre1 qco2 s.heap.size) (gW cI h0 qme0 qre1 qco2 st) := gD hD0
  have hS : va_S (gA h0 qme0 qre1 qco2 s.heap.size) s.heap s.heap [] := va_S.rf
  have hP : va_P (dC, dI) vwCl (gW cI h0 qme0 qre1 qco2 st) s.heap := hP
  have hl := lv_entry ([.ref h0, .int p1, .int p2]) (n := 4) (Nat.le_of_ble_eq_true rfl)
  rw [lg_entry_eq]
  generalize (lg_sl ([.ref h0, .int p1, .int p2]) ++ List.replicate (4 - (lg_sl ([.ref h0, .int p1, .int p2])).length) Slot.unset).toArray = ls at hl ⊢
  refine jgo (P := fun H locs => va_P (dC, dI) vwCl (gW cI h0 qme0 qre1 qco2 st) H ∧ va_S (gA h0 qme0 qre1 qco2 s.heap.size) s.heap H locs) ⟨hP, hS⟩ (fun H locs hPS => ?_)
  obtain ⟨hP, hS⟩ := hPS
  have hl : lv_has ls 4 [(0, .ref h0), (1, .int p1), (2, .int p2)] := hl
  refine lv_aload_n hx hb dXL_poke_0 rfl (lv_at hl 0 rfl) ?_
  refine lv_iload_n hx hb dXL_poke_1 rfl (lv_at hl 1 rfl) ?_
  refine lv_iload_n hx hb dXL_poke_2 rfl (lv_at hl 2 rfl) ?_
  refine vx_callv (vx_runV (As := [.int p1, .int p2]) (rest := []) ⟨hx, hb, hml, hown, hts⟩ (ch_poke l dC dI cI h0 qme0 qre1 qco2 tN tB hnt sa H.size st p1 p2) (cwV 2 hts (gV mL_L_20 mI_0_poke mX_0_poke mN_0 mB_0_poke) rfl rfl rfl (by decide +kernel) ⟨Nat.le_of_ble_eq_true rfl, Nat.le_of_ble_eq_true rfl⟩) ⟨gXblind, va_recv hK hP (ci := 0) (q0 := 0) rfl rfl, fun U hU hW => ⟨rfl, gXpreOf hK hP hD hS hZ hX U hU hW⟩⟩ rfl rfl hl.1 rfl (lv_room (Nat.le_of_ble_eq_true rfl)) dXL_poke_3 ⟨Nat.le_of_ble_eq_true rfl, Nat.le_of_ble_eq_true rfl⟩) hS (fun q _ h => gAm hS.1 q h) (fun q h => gAm hS.1 q h) (fun q _ h => gAm hS.1 q h) (fun E ce q9 v t H1 locs ht hvm hpx hB hz hk hS hce hcv hcl => ?_) (fun v t H1 locs ht hvm hw hB hz hk hS => ?_)
  · obtain ⟨rfl, hnone⟩ := hpx
    obtain ⟨rfl, hP1, -, hD1⟩ := hB
    rw [ht] at hP1
    refine vx_catch (own := "PagedHartLaw") (name := "java/lang/IndexOutOfBoundsException") hown [] ⟨0, 6, 9, 18⟩ [] htb (fun z h => nomatch h) (by decide) (by decide) (hts _ mK_L_18) (va_Nw.use rfl hX.2.2.1.1) hce hcv hcl ?_
    refine lv_astore_n (lv' := [(3, .ref q9), (0, .ref h0), (1, .int p1), (2, .int p2)]) hx hb dXL_poke_9 rfl hl (by decide) rfl (fun ls hl => ?_)
    refine lv_iconst (v := 1) hx hb dXL_poke_10 (by decide) ?_
    refine W.widen (k := 1) (n := 6) (Nat.le_of_ble_eq_true rfl) (Nat.le_of_ble_eq_true rfl) ?_
    exact W.iret (v := 1) hx hb hr (fun t ht hW => ⟨⟨1, v, rfl, Or.inr ⟨rfl, rfl, hnone⟩, by rw [ht]; exact hP1, va_K.moved hW.alike hK, gDm hD1⟩, hS.F ht⟩) hS.2.2 dXL_poke_11 hlocks
  · obtain ⟨hP1, -, hD1⟩ := hB
    rw [ht] at hP1
    refine lv_goto (tgt := 12) hx hb dXL_poke_6 (by decide) ?_
    refine lv_iconst (v := 0) hx hb dXL_poke_12 (by decide) ?_
    refine W.widen (k := 1) (n := 6) (Nat.le_of_ble_eq_true rfl) (Nat.le_of_ble_eq_true rfl) ?_
    exact W.iret (v := 0) hx hb hr (fun t ht hW => ⟨⟨0, v, rfl, Or.inl ⟨rfl, hw⟩, by rw [ht]; exact hP1, va_K.moved hW.alike hK, gDm hD1⟩, hS.F ht⟩) hS.2.2 dXL_poke_13 hlocks
set_option maxHeartbeats 4000000 in
set_option maxRecDepth 100000 in
theorem ck_pokeFour (l : Launch) (dC : Nat → ClassId) (dI : Nat → Nat → Nat) (cI h0 qme0 qre1 qco2 tN tB : Nat) (hnt : l.stackTraces = false) (sa sz : Nat) (st : HS) (p1 : Int32) (p2 : Int32) (p3 : Int32) (p4 : Int32) (p5 : Int32) : Met l yXL_pokeFour (.codeWith yXL_pokeFour cXL_pokeFour 7 (some .int) [(0, 11, 14, 18)] :: gBIG) ({ frames := 7, cells := 1, slots := 6, locals := 116 }) (va_Pc [.ref h0, .int p1, .int p2, .int p3, .int p4, .int p5] (gPreX "java/lang/IndexOutOfBoundsException" "not four words of the memory" 50 sa dC dI cI h0 qme0 qre1 qco2 tN tB sz st)) (va_Qi (kPostV st (h_pokeFour st p1 p2 p3 p4 p5)) (gB dC dI cI h0 qme0 qre1 qco2 (gA h0 qme0 qre1 qco2 sz)) (gA h0 qme0 qre1 qco2 sz)) 1 6 (gA h0 qme0 qre1 qco2 sz) := by
  refine va_MetW (cc := cXL_pokeFour) (maxL := 7) (ret := some .int) (hh := [(0, 11, 14, 18)]) (by decide) rfl ?_
  intro p e s m args below meth c s₁ B hml hv
  obtain ⟨rfl, ⟨hsz, hP, hK, hD0, hZ⟩, hX⟩ := hv
  have hx := B.exec
  have hb := B.bytes
  have hr := B.returns
  have hts : ∀ w ∈ gBIG, w.before _ s = true := fun w h => atoms_spec (ws := (.codeWith yXL_pokeFour cXL_pokeFour 7 (some .int) [(0, 11, 14, 18)] :: gBIG)) B.pre w (List.mem_cons_of_mem _ h)
  have htb : c.exceptionTable.toList = tableOf [(0, 11, 14, 18)] := vx_table (x := yXL_pokeFour) B (atoms_spec (ws := (.codeWith yXL_pokeFour cXL_pokeFour 7 (some .int) [(0, 11, 14, 18)] :: gBIG)) B.pre _ List.mem_cons_self)
  have hown : s.vm.findClass "PagedHartLaw" = some m.cls := findClass_of_methodNamed B.named
  have hlocks := B.notSynchronized
  subst hsz
  have hD : va_D (gA h0 qme0 qre1 qco2 s.heap.size) (gW cI h0 qme0 qre1 qco2 st) := gD hD0
  have hS : va_S (gA h0 qme0 qre1 qco2 s.heap.size) s.heap s.heap [] := va_S.rf
  have hP : va_P (dC, dI) vwCl (gW cI h0 qme0 qre1 qco2 st) s.heap := hP
  have hl := lv_entry ([.ref h0, .int p1, .int p2, .int p3, .int p4, .int p5]) (n := 7) (Nat.le_of_ble_eq_true rfl)
  rw [lg_entry_eq]
  generalize (lg_sl ([.ref h0, .int p1, .int p2, .int p3, .int p4, .int p5]) ++ List.replicate (7 - (lg_sl ([.ref h0, .int p1, .int p2, .int p3, .int p4, .int p5])).length) Slot.unset).toArray = ls at hl ⊢
  refine jgo (P := fun H locs => va_P (dC, dI) vwCl (gW cI h0 qme0 qre1 qco2 st) H ∧ va_S (gA h0 qme0 qre1 qco2 s.heap.size) s.heap H locs) ⟨hP, hS⟩ (fun H locs hPS => ?_)
  obtain ⟨hP, hS⟩ := hPS
  have hl : lv_has ls 7 [(0, .ref h0), (1, .int p1), (2, .int p2), (3, .int p3), (4, .int p4), (5, .int p5)] := hl
  refine lv_aload_n hx hb dXL_pokeFour_0 rfl (lv_at hl 0 rfl) ?_
  refine lv_iload_n hx hb dXL_pokeFour_1 rfl (lv_at hl 1 rfl) ?_
  refine lv_iload_n hx hb dXL_pokeFour_2 rfl (lv_at hl 2 rfl) ?_
  refine lv_iload_n hx hb dXL_pokeFour_3 rfl (lv_at hl 3 rfl) ?_
  refine lv_iload hx hb dXL_pokeFour_4 (lv_at hl 4 rfl) ?_
  refine lv_iload hx hb dXL_pokeFour_6 (lv_at hl 5 rfl) ?_
  refine vx_callv (vx_runV (As := [.int p1, .int p2, .int p3, .int p4, .int p5]) (rest := []) ⟨hx, hb, hml, hown, hts⟩ (ch_pokeFour l dC dI cI h0 qme0 qre1 qco2 tN tB hnt sa H.size st p1 p2 p3 p4 p5) (cwV 5 hts (gV mL_L_24 mI_0_pokeFour mX_0_pokeFour mN_0 mB_0_pokeFour) rfl rfl rfl (by decide +kernel) ⟨Nat.le_of_ble_eq_true rfl, Nat.le_of_ble_eq_true rfl⟩) ⟨gXblind, va_recv hK hP (ci := 0) (q0 := 0) rfl rfl, fun U hU hW => ⟨rfl, gXpreOf hK hP hD hS hZ hX U hU hW⟩⟩ rfl rfl hl.1 rfl (lv_room (Nat.le_of_ble_eq_true rfl)) dXL_pokeFour_8 ⟨Nat.le_of_ble_eq_true rfl, Nat.le_of_ble_eq_true rfl⟩) hS (fun q _ h => gAm hS.1 q h) (fun q h => gAm hS.1 q h) (fun q _ h => gAm hS.1 q h) (fun E ce q9 v t H1 locs ht hvm hpx hB hz hk hS hce hcv hcl => ?_) (fun v t H1 locs ht hvm hw hB hz hk hS => ?_)
  · obtain ⟨rfl, hnone⟩ := hpx
    obtain ⟨rfl, hP1, -, hD1⟩ := hB
    rw [ht] at hP1
    refine vx_catch (own := "PagedHartLaw") (name := "java/lang/IndexOutOfBoundsException") hown [] ⟨0, 11, 14, 18⟩ [] htb (fun z h => nomatch h) (by decide) (by decide) (hts _ mK_L_18) (va_Nw.use rfl hX.2.2.1.1) hce hcv hcl ?_
    refine lv_astore (lv' := [(6, .ref q9), (0, .ref h0), (1, .int p1), (2, .int p2), (3, .int p3), (4, .int p4), (5, .int p5)]) hx hb dXL_pokeFour_14 hl (by decide) rfl (fun ls hl => ?_)
    refine lv_iconst (v := 1) hx hb dXL_pokeFour_16 (by decide) ?_
    refine W.widen (k := 1) (n := 6) (Nat.le_of_ble_eq_true rfl) (Nat.le_of_ble_eq_true rfl) ?_
    exact W.iret (v := 1) hx hb hr (fun t ht hW => ⟨⟨1, v, rfl, Or.inr ⟨rfl, rfl, hnone⟩, by rw [ht]; exact hP1, va_K.moved hW.alike hK, gDm hD1⟩, hS.F ht⟩) hS.2.2 dXL_pokeFour_17 hlocks
  · obtain ⟨hP1, -, hD1⟩ := hB
    rw [ht] at hP1
    refine lv_goto (tgt := 18) hx hb dXL_pokeFour_11 (by decide) ?_
    refine lv_iconst (v := 0) hx hb dXL_pokeFour_18 (by decide) ?_
    refine W.widen (k := 1) (n := 6) (Nat.le_of_ble_eq_true rfl) (Nat.le_of_ble_eq_true rfl) ?_
    exact W.iret (v := 0) hx hb hr (fun t ht hW => ⟨⟨0, v, rfl, Or.inl ⟨rfl, hw⟩, by rw [ht]; exact hP1, va_K.moved hW.alike hK, gDm hD1⟩, hS.F ht⟩) hS.2.2 dXL_pokeFour_19 hlocks
set_option maxHeartbeats 4000000 in
set_option maxRecDepth 100000 in
theorem ck_register (l : Launch) (dC : Nat → ClassId) (dI : Nat → Nat → Nat) (cI cL h0 qme0 qre1 qco2 qo tN tB : Nat) (hnt : l.stackTraces = false) (sa sz : Nat) (st : HS) (o : Nat → Int64) (p1 : Int32) : Met l yXL_register (.codeWith yXL_register cXL_register 4 (some .int) [(0, 9, 12, 18)] :: gBIG) ({ frames := 7, cells := 1, slots := 6, locals := 111 }) (va_Pc [.ref h0, .int p1, .ref qo] (kPre "java/lang/IndexOutOfBoundsException" "registers are 0 to 33" 52 sa dC dI cI cL h0 qme0 qre1 qco2 qo tN tB sz st o)) (va_Qi (kPostI st o (h_register st p1)) (kB dC dI cI cL h0 qme0 qre1 qco2 qo (kA h0 qme0 qre1 qco2 qo sz)) (kA h0 qme0 qre1 qco2 qo sz)) 1 6 (kA h0 qme0 qre1 qco2 qo sz) := by
  refine va_MetW (cc := cXL_register) (maxL := 4) (ret := some .int) (hh := [(0, 9, 12, 18)]) (by decide) rfl ?_
  intro p e s m args below meth c s₁ B hml hv
  obtain ⟨rfl, hsz, hP, hK, hD0, hZ, hX⟩ := hv
  have hx := B.exec
  have hb := B.bytes
  have hr := B.returns
  have hts : ∀ w ∈ gBIG, w.before _ s = true := fun w h => atoms_spec (ws := (.codeWith yXL_register cXL_register 4 (some .int) [(0, 9, 12, 18)] :: gBIG)) B.pre w (List.mem_cons_of_mem _ h)
  have htb : c.exceptionTable.toList = tableOf [(0, 9, 12, 18)] := vx_table (x := yXL_register) B (atoms_spec (ws := (.codeWith yXL_register cXL_register 4 (some .int) [(0, 9, 12, 18)] :: gBIG)) B.pre _ List.mem_cons_self)
  have hown : s.vm.findClass "PagedHartLaw" = some m.cls := findClass_of_methodNamed B.named
  have hlocks := B.notSynchronized
  subst hsz
  have hD : va_D (kA h0 qme0 qre1 qco2 qo s.heap.size) (kW cI cL h0 qme0 qre1 qco2 qo st o) := kD hD0
  have hS : va_S (kA h0 qme0 qre1 qco2 qo s.heap.size) s.heap s.heap [] := va_S.rf
  have hP : va_P (dC, dI) vwCl (kW cI cL h0 qme0 qre1 qco2 qo st o) s.heap := hP
  have hl := lv_entry ([.ref h0, .int p1, .ref qo]) (n := 4) (Nat.le_of_ble_eq_true rfl)
  rw [lg_entry_eq]
  generalize (lg_sl ([.ref h0, .int p1, .ref qo]) ++ List.replicate (4 - (lg_sl ([.ref h0, .int p1, .ref qo])).length) Slot.unset).toArray = ls at hl ⊢
  refine jgo (P := fun H locs => va_P (dC, dI) vwCl (kW cI cL h0 qme0 qre1 qco2 qo st o) H ∧ va_S (kA h0 qme0 qre1 qco2 qo s.heap.size) s.heap H locs) ⟨hP, hS⟩ (fun H locs hPS => ?_)
  obtain ⟨hP, hS⟩ := hPS
  have hl : lv_has ls 4 [(0, .ref h0), (1, .int p1), (2, .ref qo)] := hl
  refine lv_aload_n hx hb dXL_register_0 rfl (lv_at hl 2 rfl) ?_
  refine lv_iconst (v := 0) hx hb dXL_register_1 (by decide) ?_
  have hA : ∀ q : Nat, s.heap.size ≤ q → kA h0 qme0 qre1 qco2 qo s.heap.size q := fun q h => Or.inr (Or.inr (Or.inr (Or.inr (Or.inr h))))
  have hPc := hP.sub (ws' := gW cI h0 qme0 qre1 qco2 st) [0, 1, 2, 3] rfl
  have hKc := hK.sub (tys' := [(cI, .int)]) [0] rfl
  have hFc := va_free (wc := gW cI h0 qme0 qre1 qco2 st) hD hS hA [0, 1, 2, 3] rfl
  refine lv_aload_n hx hb dXL_register_2 rfl (lv_at hl 0 rfl) ?_
  refine lv_iload_n hx hb dXL_register_3 rfl (lv_at hl 1 rfl) ?_
  refine vx_calli (vx_runV (As := [.int p1]) (rest := [.int 0, .ref qo]) ⟨hx, hb, hml, hown, hts⟩ (ch_register l dC dI cI h0 qme0 qre1 qco2 tN tB hnt sa H.size st p1) (cwV 1 hts (gV mL_L_28 mI_0_register mX_0_register mN_0 mB_0_register) rfl rfl rfl (by decide +kernel) ⟨Nat.le_of_ble_eq_true rfl, Nat.le_of_ble_eq_true rfl⟩) ⟨gXblind, va_recv hKc hPc (ci := 0) (q0 := 0) rfl rfl, fun U hU hW => ⟨rfl, kXpreOf hK hP hD hS hZ hX U hU hW⟩⟩ rfl rfl hl.1 rfl (lv_room (Nat.le_of_ble_eq_true rfl)) dXL_register_4 ⟨Nat.le_of_ble_eq_true rfl, Nat.le_of_ble_eq_true rfl⟩) hS (fun q _ h => Or.inr (gAm hS.1 q h)) (fun q h => Or.inr (gAm hS.1 q h)) (fun q _ h => Or.inr (gAm hS.1 q h)) (fun E ce q9 v t H1 locs ht hvm hpx hB hz hk hS hce hcv hcl => ?_) (fun x v t H1 locs ht hvm hw hB hz hk hS => ?_)
  · obtain ⟨rfl, hnone⟩ := hpx
    obtain ⟨rfl, hP1, -, hD1⟩ := hB
    rw [ht] at hP1
    obtain ⟨hP, hD⟩ := va_join (wr := [(qo, .inl (cL, 1, .inr (.inl o)))]) (w1 := gW cI h0 qme0 qre1 qco2 v) hP hD [0, 1, 2, 3] [4] rfl rfl (by decide) (by decide) (fun q h1 h2 => hk q h1 (fun g => h2 (gA_va g))) hFc hP1 (hD1.weaken (fun _ q _ h => gA_va h))
    have hP := hP.sub (ws' := kW cI cL h0 qme0 qre1 qco2 qo v o) [1, 2, 3, 4, 0] rfl
    have hD := hD.sub (ws' := kW cI cL h0 qme0 qre1 qco2 qo v o) [1, 2, 3, 4, 0] (by decide) rfl
    refine vx_catch (own := "PagedHartLaw") (name := "java/lang/IndexOutOfBoundsException") hown [] ⟨0, 9, 12, 18⟩ [] htb (fun z h => nomatch h) (by decide) (by decide) (hts _ mK_L_18) (va_Nw.use rfl hX.2.2.1.1) hce hcv hcl ?_
    refine lv_astore_n (lv' := [(3, .ref q9), (0, .ref h0), (1, .int p1), (2, .ref qo)]) hx hb dXL_register_12 rfl hl (by decide) rfl (fun ls hl => ?_)
    refine lv_iconst (v := 1) hx hb dXL_register_13 (by decide) ?_
    refine W.widen (k := 1) (n := 6) (Nat.le_of_ble_eq_true rfl) (Nat.le_of_ble_eq_true rfl) ?_
    exact W.iret (v := 1) hx hb hr (fun t ht hW => ⟨⟨1, (v, o), rfl, Or.inr ⟨rfl, rfl, hnone⟩, by rw [ht]; exact hP, va_K.moved hW.alike hK, hD⟩, hS.F ht⟩) hS.2.2 dXL_register_14 hlocks
  · obtain ⟨hP1, -, hD1⟩ := hB
    rw [ht] at hP1
    obtain ⟨hP, hD⟩ := va_join (wr := [(qo, .inl (cL, 1, .inr (.inl o)))]) (w1 := gW cI h0 qme0 qre1 qco2 v) hP hD [0, 1, 2, 3] [4] rfl rfl (by decide) (by decide) (fun q h1 h2 => hk q h1 (fun g => h2 (gA_va g))) hFc hP1 (hD1.weaken (fun _ q _ h => gA_va h))
    refine lv_i2l hx hb dXL_register_7 rfl ?_
    refine va_last (D := (dC, dI)) hx hb hK hP hD hS 0 1 rfl rfl (jin (by decide)) dXL_register_8 (fun H locs hP hD hS => ?_)
    have hP := hP.sub (ws' := kW cI cL h0 qme0 qre1 qco2 qo v (vp_updL o (0 : Int32).toNatClampNeg x.toInt64)) [1, 2, 3, 4, 0] rfl
    have hD := hD.sub (ws' := kW cI cL h0 qme0 qre1 qco2 qo v (vp_updL o (0 : Int32).toNatClampNeg x.toInt64)) [1, 2, 3, 4, 0] (by decide) rfl
    refine lv_goto (tgt := 15) hx hb dXL_register_9 (by decide) ?_
    refine lv_iconst (v := 0) hx hb dXL_register_15 (by decide) ?_
    refine W.widen (k := 1) (n := 6) (Nat.le_of_ble_eq_true rfl) (Nat.le_of_ble_eq_true rfl) ?_
    exact W.iret (v := 0) hx hb hr (fun t ht hW => ⟨⟨0, (v, vp_updL o (0 : Int32).toNatClampNeg x.toInt64), rfl, Or.inl ⟨rfl, x, hw, rfl⟩, by rw [ht]; exact hP, va_K.moved hW.alike hK, hD⟩, hS.F ht⟩) hS.2.2 dXL_register_16 hlocks
set_option maxHeartbeats 4000000 in
set_option maxRecDepth 100000 in
theorem ck_setRegister (l : Launch) (dC : Nat → ClassId) (dI : Nat → Nat → Nat) (cI h0 qme0 qre1 qco2 tN tB : Nat) (hnt : l.stackTraces = false) (sa sz : Nat) (st : HS) (p1 : Int32) (p2 : Int32) : Met l yXL_setRegister (.codeWith yXL_setRegister cXL_setRegister 4 (some .int) [(0, 6, 9, 18)] :: gBIG) ({ frames := 7, cells := 1, slots := 6, locals := 112 }) (va_Pc [.ref h0, .int p1, .int p2] (gPreX "java/lang/IndexOutOfBoundsException" "registers are 0 to 33" 52 sa dC dI cI h0 qme0 qre1 qco2 tN tB sz st)) (va_Qi (kPostV st (h_setRegister st p1 p2)) (gB dC dI cI h0 qme0 qre1 qco2 (gA h0 qme0 qre1 qco2 sz)) (gA h0 qme0 qre1 qco2 sz)) 1 6 (gA h0 qme0 qre1 qco2 sz) := by
  refine va_MetW (cc := cXL_setRegister) (maxL := 4) (ret := some .int) (hh := [(0, 6, 9, 18)]) (by decide) rfl ?_
  intro p e s m args below meth c s₁ B hml hv
  obtain ⟨rfl, ⟨hsz, hP, hK, hD0, hZ⟩, hX⟩ := hv
  have hx := B.exec
  have hb := B.bytes
  have hr := B.returns
  have hts : ∀ w ∈ gBIG, w.before _ s = true := fun w h => atoms_spec (ws := (.codeWith yXL_setRegister cXL_setRegister 4 (some .int) [(0, 6, 9, 18)] :: gBIG)) B.pre w (List.mem_cons_of_mem _ h)
  have htb : c.exceptionTable.toList = tableOf [(0, 6, 9, 18)] := vx_table (x := yXL_setRegister) B (atoms_spec (ws := (.codeWith yXL_setRegister cXL_setRegister 4 (some .int) [(0, 6, 9, 18)] :: gBIG)) B.pre _ List.mem_cons_self)
  have hown : s.vm.findClass "PagedHartLaw" = some m.cls := findClass_of_methodNamed B.named
  have hlocks := B.notSynchronized
  subst hsz
  have hD : va_D (gA h0 qme0 qre1 qco2 s.heap.size) (gW cI h0 qme0 qre1 qco2 st) := gD hD0
  have hS : va_S (gA h0 qme0 qre1 qco2 s.heap.size) s.heap s.heap [] := va_S.rf
  have hP : va_P (dC, dI) vwCl (gW cI h0 qme0 qre1 qco2 st) s.heap := hP
  have hl := lv_entry ([.ref h0, .int p1, .int p2]) (n := 4) (Nat.le_of_ble_eq_true rfl)
  rw [lg_entry_eq]
  generalize (lg_sl ([.ref h0, .int p1, .int p2]) ++ List.replicate (4 - (lg_sl ([.ref h0, .int p1, .int p2])).length) Slot.unset).toArray = ls at hl ⊢
  refine jgo (P := fun H locs => va_P (dC, dI) vwCl (gW cI h0 qme0 qre1 qco2 st) H ∧ va_S (gA h0 qme0 qre1 qco2 s.heap.size) s.heap H locs) ⟨hP, hS⟩ (fun H locs hPS => ?_)
  obtain ⟨hP, hS⟩ := hPS
  have hl : lv_has ls 4 [(0, .ref h0), (1, .int p1), (2, .int p2)] := hl
  refine lv_aload_n hx hb dXL_setRegister_0 rfl (lv_at hl 0 rfl) ?_
  refine lv_iload_n hx hb dXL_setRegister_1 rfl (lv_at hl 1 rfl) ?_
  refine lv_iload_n hx hb dXL_setRegister_2 rfl (lv_at hl 2 rfl) ?_
  refine vx_callv (vx_runV (As := [.int p1, .int p2]) (rest := []) ⟨hx, hb, hml, hown, hts⟩ (ch_setRegister l dC dI cI h0 qme0 qre1 qco2 tN tB hnt sa H.size st p1 p2) (cwV 2 hts (gV mL_L_31 mI_0_setRegister mX_0_setRegister mN_0 mB_0_setRegister) rfl rfl rfl (by decide +kernel) ⟨Nat.le_of_ble_eq_true rfl, Nat.le_of_ble_eq_true rfl⟩) ⟨gXblind, va_recv hK hP (ci := 0) (q0 := 0) rfl rfl, fun U hU hW => ⟨rfl, gXpreOf hK hP hD hS hZ hX U hU hW⟩⟩ rfl rfl hl.1 rfl (lv_room (Nat.le_of_ble_eq_true rfl)) dXL_setRegister_3 ⟨Nat.le_of_ble_eq_true rfl, Nat.le_of_ble_eq_true rfl⟩) hS (fun q _ h => gAm hS.1 q h) (fun q h => gAm hS.1 q h) (fun q _ h => gAm hS.1 q h) (fun E ce q9 v t H1 locs ht hvm hpx hB hz hk hS hce hcv hcl => ?_) (fun v t H1 locs ht hvm hw hB hz hk hS => ?_)
  · obtain ⟨rfl, hnone⟩ := hpx
    obtain ⟨rfl, hP1, -, hD1⟩ := hB
    rw [ht] at hP1
    refine vx_catch (own := "PagedHartLaw") (name := "java/lang/IndexOutOfBoundsException") hown [] ⟨0, 6, 9, 18⟩ [] htb (fun z h => nomatch h) (by decide) (by decide) (hts _ mK_L_18) (va_Nw.use rfl hX.2.2.1.1) hce hcv hcl ?_
    refine lv_astore_n (lv' := [(3, .ref q9), (0, .ref h0), (1, .int p1), (2, .int p2)]) hx hb dXL_setRegister_9 rfl hl (by decide) rfl (fun ls hl => ?_)
    refine lv_iconst (v := 1) hx hb dXL_setRegister_10 (by decide) ?_
    refine W.widen (k := 1) (n := 6) (Nat.le_of_ble_eq_true rfl) (Nat.le_of_ble_eq_true rfl) ?_
    exact W.iret (v := 1) hx hb hr (fun t ht hW => ⟨⟨1, v, rfl, Or.inr ⟨rfl, rfl, hnone⟩, by rw [ht]; exact hP1, va_K.moved hW.alike hK, gDm hD1⟩, hS.F ht⟩) hS.2.2 dXL_setRegister_11 hlocks
  · obtain ⟨hP1, -, hD1⟩ := hB
    rw [ht] at hP1
    refine lv_goto (tgt := 12) hx hb dXL_setRegister_6 (by decide) ?_
    refine lv_iconst (v := 0) hx hb dXL_setRegister_12 (by decide) ?_
    refine W.widen (k := 1) (n := 6) (Nat.le_of_ble_eq_true rfl) (Nat.le_of_ble_eq_true rfl) ?_
    exact W.iret (v := 0) hx hb hr (fun t ht hW => ⟨⟨0, v, rfl, Or.inl ⟨rfl, hw⟩, by rw [ht]; exact hP1, va_K.moved hW.alike hK, gDm hD1⟩, hS.F ht⟩) hS.2.2 dXL_setRegister_13 hlocks
set_option maxHeartbeats 4000000 in
set_option maxRecDepth 100000 in
theorem ck_control (l : Launch) (dC : Nat → ClassId) (dI : Nat → Nat → Nat) (cI cL h0 qme0 qre1 qco2 qo tN tB : Nat) (hnt : l.stackTraces = false) (sa sz : Nat) (st : HS) (o : Nat → Int64) (p1 : Int32) : Met l yXL_control (.codeWith yXL_control cXL_control 4 (some .int) [(0, 9, 12, 37)] :: gBIG) ({ frames := 7, cells := 1, slots := 6, locals := 112 }) (va_Pc [.ref h0, .int p1, .ref qo] (kPre "java/util/NoSuchElementException" "no control of that number" 60 sa dC dI cI cL h0 qme0 qre1 qco2 qo tN tB sz st o)) (va_Qi (kPostI st o (h_control st p1)) (kB dC dI cI cL h0 qme0 qre1 qco2 qo (kA h0 qme0 qre1 qco2 qo sz)) (kA h0 qme0 qre1 qco2 qo sz)) 1 6 (kA h0 qme0 qre1 qco2 qo sz) := by
  refine va_MetW (cc := cXL_control) (maxL := 4) (ret := some .int) (hh := [(0, 9, 12, 37)]) (by decide) rfl ?_
  intro p e s m args below meth c s₁ B hml hv
  obtain ⟨rfl, hsz, hP, hK, hD0, hZ, hX⟩ := hv
  have hx := B.exec
  have hb := B.bytes
  have hr := B.returns
  have hts : ∀ w ∈ gBIG, w.before _ s = true := fun w h => atoms_spec (ws := (.codeWith yXL_control cXL_control 4 (some .int) [(0, 9, 12, 37)] :: gBIG)) B.pre w (List.mem_cons_of_mem _ h)
  have htb : c.exceptionTable.toList = tableOf [(0, 9, 12, 37)] := vx_table (x := yXL_control) B (atoms_spec (ws := (.codeWith yXL_control cXL_control 4 (some .int) [(0, 9, 12, 37)] :: gBIG)) B.pre _ List.mem_cons_self)
  have hown : s.vm.findClass "PagedHartLaw" = some m.cls := findClass_of_methodNamed B.named
  have hlocks := B.notSynchronized
  subst hsz
  have hD : va_D (kA h0 qme0 qre1 qco2 qo s.heap.size) (kW cI cL h0 qme0 qre1 qco2 qo st o) := kD hD0
  have hS : va_S (kA h0 qme0 qre1 qco2 qo s.heap.size) s.heap s.heap [] := va_S.rf
  have hP : va_P (dC, dI) vwCl (kW cI cL h0 qme0 qre1 qco2 qo st o) s.heap := hP
  have hl := lv_entry ([.ref h0, .int p1, .ref qo]) (n := 4) (Nat.le_of_ble_eq_true rfl)
  rw [lg_entry_eq]
  generalize (lg_sl ([.ref h0, .int p1, .ref qo]) ++ List.replicate (4 - (lg_sl ([.ref h0, .int p1, .ref qo])).length) Slot.unset).toArray = ls at hl ⊢
  refine jgo (P := fun H locs => va_P (dC, dI) vwCl (kW cI cL h0 qme0 qre1 qco2 qo st o) H ∧ va_S (kA h0 qme0 qre1 qco2 qo s.heap.size) s.heap H locs) ⟨hP, hS⟩ (fun H locs hPS => ?_)
  obtain ⟨hP, hS⟩ := hPS
  have hl : lv_has ls 4 [(0, .ref h0), (1, .int p1), (2, .ref qo)] := hl
  refine lv_aload_n hx hb dXL_control_0 rfl (lv_at hl 2 rfl) ?_
  refine lv_iconst (v := 0) hx hb dXL_control_1 (by decide) ?_
  have hA : ∀ q : Nat, s.heap.size ≤ q → kA h0 qme0 qre1 qco2 qo s.heap.size q := fun q h => Or.inr (Or.inr (Or.inr (Or.inr (Or.inr h))))
  have hPc := hP.sub (ws' := gW cI h0 qme0 qre1 qco2 st) [0, 1, 2, 3] rfl
  have hKc := hK.sub (tys' := [(cI, .int)]) [0] rfl
  have hFc := va_free (wc := gW cI h0 qme0 qre1 qco2 st) hD hS hA [0, 1, 2, 3] rfl
  refine lv_aload_n hx hb dXL_control_2 rfl (lv_at hl 0 rfl) ?_
  refine lv_iload_n hx hb dXL_control_3 rfl (lv_at hl 1 rfl) ?_
  refine vx_calli (vx_runV (As := [.int p1]) (rest := [.int 0, .ref qo]) ⟨hx, hb, hml, hown, hts⟩ (ch_control l dC dI cI h0 qme0 qre1 qco2 tN tB hnt sa H.size st p1) (cwV 1 hts (gV mL_L_34 mI_0_control mX_0_control mN_0 mB_0_control) rfl rfl rfl (by decide +kernel) ⟨Nat.le_of_ble_eq_true rfl, Nat.le_of_ble_eq_true rfl⟩) ⟨gXblind, va_recv hKc hPc (ci := 0) (q0 := 0) rfl rfl, fun U hU hW => ⟨rfl, kXpreOf hK hP hD hS hZ hX U hU hW⟩⟩ rfl rfl hl.1 rfl (lv_room (Nat.le_of_ble_eq_true rfl)) dXL_control_4 ⟨Nat.le_of_ble_eq_true rfl, Nat.le_of_ble_eq_true rfl⟩) hS (fun q _ h => Or.inr (gAm hS.1 q h)) (fun q h => Or.inr (gAm hS.1 q h)) (fun q _ h => Or.inr (gAm hS.1 q h)) (fun E ce q9 v t H1 locs ht hvm hpx hB hz hk hS hce hcv hcl => ?_) (fun x v t H1 locs ht hvm hw hB hz hk hS => ?_)
  · obtain ⟨rfl, hnone⟩ := hpx
    obtain ⟨rfl, hP1, -, hD1⟩ := hB
    rw [ht] at hP1
    obtain ⟨hP, hD⟩ := va_join (wr := [(qo, .inl (cL, 1, .inr (.inl o)))]) (w1 := gW cI h0 qme0 qre1 qco2 v) hP hD [0, 1, 2, 3] [4] rfl rfl (by decide) (by decide) (fun q h1 h2 => hk q h1 (fun g => h2 (gA_va g))) hFc hP1 (hD1.weaken (fun _ q _ h => gA_va h))
    have hP := hP.sub (ws' := kW cI cL h0 qme0 qre1 qco2 qo v o) [1, 2, 3, 4, 0] rfl
    have hD := hD.sub (ws' := kW cI cL h0 qme0 qre1 qco2 qo v o) [1, 2, 3, 4, 0] (by decide) rfl
    refine vx_catch (own := "PagedHartLaw") (name := "java/util/NoSuchElementException") hown [] ⟨0, 9, 12, 37⟩ [] htb (fun z h => nomatch h) (by decide) (by decide) (hts _ mK_L_37) (va_Nw.use rfl hX.2.2.1.1) hce hcv hcl ?_
    refine lv_astore_n (lv' := [(3, .ref q9), (0, .ref h0), (1, .int p1), (2, .ref qo)]) hx hb dXL_control_12 rfl hl (by decide) rfl (fun ls hl => ?_)
    refine lv_iconst (v := 1) hx hb dXL_control_13 (by decide) ?_
    refine W.widen (k := 1) (n := 6) (Nat.le_of_ble_eq_true rfl) (Nat.le_of_ble_eq_true rfl) ?_
    exact W.iret (v := 1) hx hb hr (fun t ht hW => ⟨⟨1, (v, o), rfl, Or.inr ⟨rfl, rfl, hnone⟩, by rw [ht]; exact hP, va_K.moved hW.alike hK, hD⟩, hS.F ht⟩) hS.2.2 dXL_control_14 hlocks
  · obtain ⟨hP1, -, hD1⟩ := hB
    rw [ht] at hP1
    obtain ⟨hP, hD⟩ := va_join (wr := [(qo, .inl (cL, 1, .inr (.inl o)))]) (w1 := gW cI h0 qme0 qre1 qco2 v) hP hD [0, 1, 2, 3] [4] rfl rfl (by decide) (by decide) (fun q h1 h2 => hk q h1 (fun g => h2 (gA_va g))) hFc hP1 (hD1.weaken (fun _ q _ h => gA_va h))
    refine lv_i2l hx hb dXL_control_7 rfl ?_
    refine va_last (D := (dC, dI)) hx hb hK hP hD hS 0 1 rfl rfl (jin (by decide)) dXL_control_8 (fun H locs hP hD hS => ?_)
    have hP := hP.sub (ws' := kW cI cL h0 qme0 qre1 qco2 qo v (vp_updL o (0 : Int32).toNatClampNeg x.toInt64)) [1, 2, 3, 4, 0] rfl
    have hD := hD.sub (ws' := kW cI cL h0 qme0 qre1 qco2 qo v (vp_updL o (0 : Int32).toNatClampNeg x.toInt64)) [1, 2, 3, 4, 0] (by decide) rfl
    refine lv_goto (tgt := 15) hx hb dXL_control_9 (by decide) ?_
    refine lv_iconst (v := 0) hx hb dXL_control_15 (by decide) ?_
    refine W.widen (k := 1) (n := 6) (Nat.le_of_ble_eq_true rfl) (Nat.le_of_ble_eq_true rfl) ?_
    exact W.iret (v := 0) hx hb hr (fun t ht hW => ⟨⟨0, (v, vp_updL o (0 : Int32).toNatClampNeg x.toInt64), rfl, Or.inl ⟨rfl, x, hw, rfl⟩, by rw [ht]; exact hP, va_K.moved hW.alike hK, hD⟩, hS.F ht⟩) hS.2.2 dXL_control_16 hlocks
set_option maxHeartbeats 4000000 in
set_option maxRecDepth 100000 in
theorem ck_setControl (l : Launch) (dC : Nat → ClassId) (dI : Nat → Nat → Nat) (cI h0 qme0 qre1 qco2 tN tB : Nat) (hnt : l.stackTraces = false) (sa sz : Nat) (st : HS) (p1 : Int32) (p2 : Int32) : Met l yXL_setControl (.codeWith yXL_setControl cXL_setControl 4 (some .int) [(0, 6, 9, 37)] :: gBIG) ({ frames := 7, cells := 1, slots := 6, locals := 113 }) (va_Pc [.ref h0, .int p1, .int p2] (gPreX "java/util/NoSuchElementException" "no control of that number" 60 sa dC dI cI h0 qme0 qre1 qco2 tN tB sz st)) (va_Qi (kPostV st (h_setControl st p1 p2)) (gB dC dI cI h0 qme0 qre1 qco2 (gA h0 qme0 qre1 qco2 sz)) (gA h0 qme0 qre1 qco2 sz)) 1 6 (gA h0 qme0 qre1 qco2 sz) := by
  refine va_MetW (cc := cXL_setControl) (maxL := 4) (ret := some .int) (hh := [(0, 6, 9, 37)]) (by decide) rfl ?_
  intro p e s m args below meth c s₁ B hml hv
  obtain ⟨rfl, ⟨hsz, hP, hK, hD0, hZ⟩, hX⟩ := hv
  have hx := B.exec
  have hb := B.bytes
  have hr := B.returns
  have hts : ∀ w ∈ gBIG, w.before _ s = true := fun w h => atoms_spec (ws := (.codeWith yXL_setControl cXL_setControl 4 (some .int) [(0, 6, 9, 37)] :: gBIG)) B.pre w (List.mem_cons_of_mem _ h)
  have htb : c.exceptionTable.toList = tableOf [(0, 6, 9, 37)] := vx_table (x := yXL_setControl) B (atoms_spec (ws := (.codeWith yXL_setControl cXL_setControl 4 (some .int) [(0, 6, 9, 37)] :: gBIG)) B.pre _ List.mem_cons_self)
  have hown : s.vm.findClass "PagedHartLaw" = some m.cls := findClass_of_methodNamed B.named
  have hlocks := B.notSynchronized
  subst hsz
  have hD : va_D (gA h0 qme0 qre1 qco2 s.heap.size) (gW cI h0 qme0 qre1 qco2 st) := gD hD0
  have hS : va_S (gA h0 qme0 qre1 qco2 s.heap.size) s.heap s.heap [] := va_S.rf
  have hP : va_P (dC, dI) vwCl (gW cI h0 qme0 qre1 qco2 st) s.heap := hP
  have hl := lv_entry ([.ref h0, .int p1, .int p2]) (n := 4) (Nat.le_of_ble_eq_true rfl)
  rw [lg_entry_eq]
  generalize (lg_sl ([.ref h0, .int p1, .int p2]) ++ List.replicate (4 - (lg_sl ([.ref h0, .int p1, .int p2])).length) Slot.unset).toArray = ls at hl ⊢
  refine jgo (P := fun H locs => va_P (dC, dI) vwCl (gW cI h0 qme0 qre1 qco2 st) H ∧ va_S (gA h0 qme0 qre1 qco2 s.heap.size) s.heap H locs) ⟨hP, hS⟩ (fun H locs hPS => ?_)
  obtain ⟨hP, hS⟩ := hPS
  have hl : lv_has ls 4 [(0, .ref h0), (1, .int p1), (2, .int p2)] := hl
  refine lv_aload_n hx hb dXL_setControl_0 rfl (lv_at hl 0 rfl) ?_
  refine lv_iload_n hx hb dXL_setControl_1 rfl (lv_at hl 1 rfl) ?_
  refine lv_iload_n hx hb dXL_setControl_2 rfl (lv_at hl 2 rfl) ?_
  refine vx_callv (vx_runV (As := [.int p1, .int p2]) (rest := []) ⟨hx, hb, hml, hown, hts⟩ (ch_setControl l dC dI cI h0 qme0 qre1 qco2 tN tB hnt sa H.size st p1 p2) (cwV 2 hts (gV mL_L_39 mI_0_setControl mX_0_setControl mN_0 mB_0_setControl) rfl rfl rfl (by decide +kernel) ⟨Nat.le_of_ble_eq_true rfl, Nat.le_of_ble_eq_true rfl⟩) ⟨gXblind, va_recv hK hP (ci := 0) (q0 := 0) rfl rfl, fun U hU hW => ⟨rfl, gXpreOf hK hP hD hS hZ hX U hU hW⟩⟩ rfl rfl hl.1 rfl (lv_room (Nat.le_of_ble_eq_true rfl)) dXL_setControl_3 ⟨Nat.le_of_ble_eq_true rfl, Nat.le_of_ble_eq_true rfl⟩) hS (fun q _ h => gAm hS.1 q h) (fun q h => gAm hS.1 q h) (fun q _ h => gAm hS.1 q h) (fun E ce q9 v t H1 locs ht hvm hpx hB hz hk hS hce hcv hcl => ?_) (fun v t H1 locs ht hvm hw hB hz hk hS => ?_)
  · obtain ⟨rfl, hnone⟩ := hpx
    obtain ⟨rfl, hP1, -, hD1⟩ := hB
    rw [ht] at hP1
    refine vx_catch (own := "PagedHartLaw") (name := "java/util/NoSuchElementException") hown [] ⟨0, 6, 9, 37⟩ [] htb (fun z h => nomatch h) (by decide) (by decide) (hts _ mK_L_37) (va_Nw.use rfl hX.2.2.1.1) hce hcv hcl ?_
    refine lv_astore_n (lv' := [(3, .ref q9), (0, .ref h0), (1, .int p1), (2, .int p2)]) hx hb dXL_setControl_9 rfl hl (by decide) rfl (fun ls hl => ?_)
    refine lv_iconst (v := 1) hx hb dXL_setControl_10 (by decide) ?_
    refine W.widen (k := 1) (n := 6) (Nat.le_of_ble_eq_true rfl) (Nat.le_of_ble_eq_true rfl) ?_
    exact W.iret (v := 1) hx hb hr (fun t ht hW => ⟨⟨1, v, rfl, Or.inr ⟨rfl, rfl, hnone⟩, by rw [ht]; exact hP1, va_K.moved hW.alike hK, gDm hD1⟩, hS.F ht⟩) hS.2.2 dXL_setControl_11 hlocks
  · obtain ⟨hP1, -, hD1⟩ := hB
    rw [ht] at hP1
    refine lv_goto (tgt := 12) hx hb dXL_setControl_6 (by decide) ?_
    refine lv_iconst (v := 0) hx hb dXL_setControl_12 (by decide) ?_
    refine W.widen (k := 1) (n := 6) (Nat.le_of_ble_eq_true rfl) (Nat.le_of_ble_eq_true rfl) ?_
    exact W.iret (v := 0) hx hb hr (fun t ht hW => ⟨⟨0, v, rfl, Or.inl ⟨rfl, hw⟩, by rw [ht]; exact hP1, va_K.moved hW.alike hK, gDm hD1⟩, hS.F ht⟩) hS.2.2 dXL_setControl_13 hlocks
set_option maxHeartbeats 4000000 in
set_option maxRecDepth 100000 in
theorem ck_translate (l : Launch) (dC : Nat → ClassId) (dI : Nat → Nat → Nat) (cI cL h0 qme0 qre1 qco2 qo tN tB : Nat) (hnt : l.stackTraces = false) (sa sz : Nat) (st : HS) (o : Nat → Int64) (p1 : Int32) (p2 : Int32) : Met l yXL_translate (.codeWith yXL_translate cXL_translate 5 (some .int) [(0, 10, 13, 13)] :: gBIG) ({ frames := 7, cells := 1, slots := 6, locals := 112 }) (va_Pc [.ref h0, .int p1, .int p2, .ref qo] (kPre "java/lang/IllegalArgumentException" "how is 0, 1 or 2" 66 sa dC dI cI cL h0 qme0 qre1 qco2 qo tN tB sz st o)) (va_Qi (kPostI st o (h_translate st p1 p2)) (kB dC dI cI cL h0 qme0 qre1 qco2 qo (kA h0 qme0 qre1 qco2 qo sz)) (kA h0 qme0 qre1 qco2 qo sz)) 1 6 (kA h0 qme0 qre1 qco2 qo sz) := by
  refine va_MetW (cc := cXL_translate) (maxL := 5) (ret := some .int) (hh := [(0, 10, 13, 13)]) (by decide) rfl ?_
  intro p e s m args below meth c s₁ B hml hv
  obtain ⟨rfl, hsz, hP, hK, hD0, hZ, hX⟩ := hv
  have hx := B.exec
  have hb := B.bytes
  have hr := B.returns
  have hts : ∀ w ∈ gBIG, w.before _ s = true := fun w h => atoms_spec (ws := (.codeWith yXL_translate cXL_translate 5 (some .int) [(0, 10, 13, 13)] :: gBIG)) B.pre w (List.mem_cons_of_mem _ h)
  have htb : c.exceptionTable.toList = tableOf [(0, 10, 13, 13)] := vx_table (x := yXL_translate) B (atoms_spec (ws := (.codeWith yXL_translate cXL_translate 5 (some .int) [(0, 10, 13, 13)] :: gBIG)) B.pre _ List.mem_cons_self)
  have hown : s.vm.findClass "PagedHartLaw" = some m.cls := findClass_of_methodNamed B.named
  have hlocks := B.notSynchronized
  subst hsz
  have hD : va_D (kA h0 qme0 qre1 qco2 qo s.heap.size) (kW cI cL h0 qme0 qre1 qco2 qo st o) := kD hD0
  have hS : va_S (kA h0 qme0 qre1 qco2 qo s.heap.size) s.heap s.heap [] := va_S.rf
  have hP : va_P (dC, dI) vwCl (kW cI cL h0 qme0 qre1 qco2 qo st o) s.heap := hP
  have hl := lv_entry ([.ref h0, .int p1, .int p2, .ref qo]) (n := 5) (Nat.le_of_ble_eq_true rfl)
  rw [lg_entry_eq]
  generalize (lg_sl ([.ref h0, .int p1, .int p2, .ref qo]) ++ List.replicate (5 - (lg_sl ([.ref h0, .int p1, .int p2, .ref qo])).length) Slot.unset).toArray = ls at hl ⊢
  refine jgo (P := fun H locs => va_P (dC, dI) vwCl (kW cI cL h0 qme0 qre1 qco2 qo st o) H ∧ va_S (kA h0 qme0 qre1 qco2 qo s.heap.size) s.heap H locs) ⟨hP, hS⟩ (fun H locs hPS => ?_)
  obtain ⟨hP, hS⟩ := hPS
  have hl : lv_has ls 5 [(0, .ref h0), (1, .int p1), (2, .int p2), (3, .ref qo)] := hl
  refine lv_aload_n hx hb dXL_translate_0 rfl (lv_at hl 3 rfl) ?_
  refine lv_iconst (v := 0) hx hb dXL_translate_1 (by decide) ?_
  have hA : ∀ q : Nat, s.heap.size ≤ q → kA h0 qme0 qre1 qco2 qo s.heap.size q := fun q h => Or.inr (Or.inr (Or.inr (Or.inr (Or.inr h))))
  have hPc := hP.sub (ws' := gW cI h0 qme0 qre1 qco2 st) [0, 1, 2, 3] rfl
  have hKc := hK.sub (tys' := [(cI, .int)]) [0] rfl
  have hFc := va_free (wc := gW cI h0 qme0 qre1 qco2 st) hD hS hA [0, 1, 2, 3] rfl
  refine lv_aload_n hx hb dXL_translate_2 rfl (lv_at hl 0 rfl) ?_
  refine lv_iload_n hx hb dXL_translate_3 rfl (lv_at hl 1 rfl) ?_
  refine lv_iload_n hx hb dXL_translate_4 rfl (lv_at hl 2 rfl) ?_
  refine vx_calli (vx_runV (As := [.int p1, .int p2]) (rest := [.int 0, .ref qo]) ⟨hx, hb, hml, hown, hts⟩ (ch_translate l dC dI cI h0 qme0 qre1 qco2 tN tB hnt sa H.size st p1 p2) (cwV 2 hts (gV mL_L_42 mI_0_translate mX_0_translate mN_0 mB_0_translate) rfl rfl rfl (by decide +kernel) ⟨Nat.le_of_ble_eq_true rfl, Nat.le_of_ble_eq_true rfl⟩) ⟨gXblind, va_recv hKc hPc (ci := 0) (q0 := 0) rfl rfl, fun U hU hW => ⟨rfl, kXpreOf hK hP hD hS hZ hX U hU hW⟩⟩ rfl rfl hl.1 rfl (lv_room (Nat.le_of_ble_eq_true rfl)) dXL_translate_5 ⟨Nat.le_of_ble_eq_true rfl, Nat.le_of_ble_eq_true rfl⟩) hS (fun q _ h => Or.inr (gAm hS.1 q h)) (fun q h => Or.inr (gAm hS.1 q h)) (fun q _ h => Or.inr (gAm hS.1 q h)) (fun E ce q9 v t H1 locs ht hvm hpx hB hz hk hS hce hcv hcl => ?_) (fun x v t H1 locs ht hvm hw hB hz hk hS => ?_)
  · obtain ⟨rfl, hnone⟩ := hpx
    obtain ⟨rfl, hP1, -, hD1⟩ := hB
    rw [ht] at hP1
    obtain ⟨hP, hD⟩ := va_join (wr := [(qo, .inl (cL, 1, .inr (.inl o)))]) (w1 := gW cI h0 qme0 qre1 qco2 v) hP hD [0, 1, 2, 3] [4] rfl rfl (by decide) (by decide) (fun q h1 h2 => hk q h1 (fun g => h2 (gA_va g))) hFc hP1 (hD1.weaken (fun _ q _ h => gA_va h))
    have hP := hP.sub (ws' := kW cI cL h0 qme0 qre1 qco2 qo v o) [1, 2, 3, 4, 0] rfl
    have hD := hD.sub (ws' := kW cI cL h0 qme0 qre1 qco2 qo v o) [1, 2, 3, 4, 0] (by decide) rfl
    refine vx_catch (own := "PagedHartLaw") (name := "java/lang/IllegalArgumentException") hown [] ⟨0, 10, 13, 13⟩ [] htb (fun z h => nomatch h) (by decide) (by decide) (hts _ mK_L_13) (va_Nw.use rfl hX.2.2.1.1) hce hcv hcl ?_
    refine lv_astore (lv' := [(4, .ref q9), (0, .ref h0), (1, .int p1), (2, .int p2), (3, .ref qo)]) hx hb dXL_translate_13 hl (by decide) rfl (fun ls hl => ?_)
    refine lv_iconst (v := 1) hx hb dXL_translate_15 (by decide) ?_
    refine W.widen (k := 1) (n := 6) (Nat.le_of_ble_eq_true rfl) (Nat.le_of_ble_eq_true rfl) ?_
    exact W.iret (v := 1) hx hb hr (fun t ht hW => ⟨⟨1, (v, o), rfl, Or.inr ⟨rfl, rfl, hnone⟩, by rw [ht]; exact hP, va_K.moved hW.alike hK, hD⟩, hS.F ht⟩) hS.2.2 dXL_translate_16 hlocks
  · obtain ⟨hP1, -, hD1⟩ := hB
    rw [ht] at hP1
    obtain ⟨hP, hD⟩ := va_join (wr := [(qo, .inl (cL, 1, .inr (.inl o)))]) (w1 := gW cI h0 qme0 qre1 qco2 v) hP hD [0, 1, 2, 3] [4] rfl rfl (by decide) (by decide) (fun q h1 h2 => hk q h1 (fun g => h2 (gA_va g))) hFc hP1 (hD1.weaken (fun _ q _ h => gA_va h))
    refine lv_i2l hx hb dXL_translate_8 rfl ?_
    refine va_last (D := (dC, dI)) hx hb hK hP hD hS 0 1 rfl rfl (jin (by decide)) dXL_translate_9 (fun H locs hP hD hS => ?_)
    have hP := hP.sub (ws' := kW cI cL h0 qme0 qre1 qco2 qo v (vp_updL o (0 : Int32).toNatClampNeg x.toInt64)) [1, 2, 3, 4, 0] rfl
    have hD := hD.sub (ws' := kW cI cL h0 qme0 qre1 qco2 qo v (vp_updL o (0 : Int32).toNatClampNeg x.toInt64)) [1, 2, 3, 4, 0] (by decide) rfl
    refine lv_goto (tgt := 17) hx hb dXL_translate_10 (by decide) ?_
    refine lv_iconst (v := 0) hx hb dXL_translate_17 (by decide) ?_
    refine W.widen (k := 1) (n := 6) (Nat.le_of_ble_eq_true rfl) (Nat.le_of_ble_eq_true rfl) ?_
    exact W.iret (v := 0) hx hb hr (fun t ht hW => ⟨⟨0, (v, vp_updL o (0 : Int32).toNatClampNeg x.toInt64), rfl, Or.inl ⟨rfl, x, hw, rfl⟩, by rw [ht]; exact hP, va_K.moved hW.alike hK, hD⟩, hS.F ht⟩) hS.2.2 dXL_translate_18 hlocks
