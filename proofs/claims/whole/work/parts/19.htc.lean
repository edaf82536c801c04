def h_control (st : HS) (p1 : Int32) : Option (Int32 × HS) :=
  let x1 : Int32 := h_slotOf p1
  if 0 ≤ x1 then
    some ((st.2.2.1 x1.toNatClampNeg), st)
  else
    none
set_option maxHeartbeats 4000000 in
set_option maxRecDepth 100000 in
theorem ch_control (l : Launch) (dC : Nat → ClassId) (dI : Nat → Nat → Nat) (cI h0 qme0 qre1 qco2 tN tB : Nat) (hnt : l.stackTraces = false) (sa : Nat) (sz : Nat) (st : HS) (p1 : Int32)  : vx_Met l yX0_control (.code yX0_control cX0_control 3 (some .int) :: gBIG) ({ frames := 6, cells := 1, slots := 6, locals := 90 }) (va_Pc [.ref h0, .int p1] (gPreX "java/util/NoSuchElementException" "no control of that number" 60 sa dC dI cI h0 qme0 qre1 qco2 tN tB sz st)) (va_Qi (fun r v => some (r, v) = h_control st p1) (gB dC dI cI h0 qme0 qre1 qco2 (gA h0 qme0 qre1 qco2 sz)) (gA h0 qme0 qre1 qco2 sz)) (vx_X (fun v : HS => v = st ∧ none = h_control st p1) (fun E v t => E = "java/util/NoSuchElementException" ∧ gB dC dI cI h0 qme0 qre1 qco2 (gA h0 qme0 qre1 qco2 sz) v t) (gA h0 qme0 qre1 qco2 sz)) 1 6 (gA h0 qme0 qre1 qco2 sz) := by
  refine vx_ofW (cc := cX0_control) (maxL := 3) (ret := (some .int)) (by decide) rfl ?_
  intro p e s m args below meth c s₁ B hml htb hv
  obtain ⟨rfl, ⟨hsz, hP, hK, hD0, hZ⟩, hX⟩ := hv
  have hx := B.exec
  have hb := B.bytes
  have hr := B.returns
  have hts : ∀ w ∈ gBIG, w.before _ s = true := fun w h => atoms_spec (ws := (.code yX0_control cX0_control 3 (some .int) :: gBIG)) B.pre w (List.mem_cons_of_mem _ h)
  have hown : s.vm.findClass "PagedHart" = some m.cls := findClass_of_methodNamed B.named
  have hlocks := B.notSynchronized
  subst hsz
  have hD : va_D (gA h0 qme0 qre1 qco2 s.heap.size) (gW cI h0 qme0 qre1 qco2 st) := gD hD0
  have hS : va_S (gA h0 qme0 qre1 qco2 s.heap.size) s.heap s.heap [] := va_S.rf
  have hP : va_P (dC, dI) vwCl (gW cI h0 qme0 qre1 qco2 st) s.heap := hP
  have hl := lv_entry ([.ref h0, .int p1]) (n := 3) (Nat.le_of_ble_eq_true rfl)
  rw [lg_entry_eq]
  generalize (lg_sl ([.ref h0, .int p1]) ++ List.replicate (3 - (lg_sl ([.ref h0, .int p1])).length) Slot.unset).toArray = ls at hl ⊢
  refine jgo (P := fun H locs => va_P (dC, dI) vwCl (gW cI h0 qme0 qre1 qco2 st) H ∧ va_S (gA h0 qme0 qre1 qco2 s.heap.size) s.heap H locs) ⟨hP, hS⟩ (fun H locs hPS => ?_)
  obtain ⟨hP, hS⟩ := hPS
  have hl : lv_has ls 3 [(0, .ref h0), (1, .int p1)] := hl
  refine lv_iload_n hx hb dX0_control_0 rfl (lv_at hl 1 rfl) ?_
  refine W.callR (W.runS (As := [.int p1]) (rest := []) ⟨hx, hb, hml, hown, hts⟩ (ch_slotOf l tN tB p1) (cwS 1 hts (gS mL_0_54 mS_0_slotOf mN_0 mB_0_slotOf) rfl rfl rfl (by decide +kernel) ⟨Nat.le_of_ble_eq_true rfl, Nat.le_of_ble_eq_true rfl⟩) ⟨gZblind, fun U hU hW => ⟨rfl, gZpOf hS hZ U hU hW⟩⟩ rfl rfl hl.1 rfl (lv_room (Nat.le_of_ble_eq_true rfl)) dX0_control_1 ⟨Nat.zero_le _, Nat.zero_le _⟩) ?_
  refine W.eq (g2 := F0 m 4 ls (.int (h_slotOf p1) :: [])) rfl ?_
  refine lv_topi (fun x1 ex1 => ?_)
  refine lv_istore_n (lv' := [(2, .int x1), (0, .ref h0), (1, .int p1)]) hx hb dX0_control_4 rfl hl (by decide) rfl (fun ls hl => ?_)
  refine lv_iload_n hx hb dX0_control_5 rfl (lv_at hl 0 rfl) ?_
  refine lv_if_ge (tgt := 19) hx hb dX0_control_6 (by decide) (fun c2 => ?_) (fun c2 => ?_)
  · refine lv_aload_n hx hb dX0_control_19 rfl (lv_at hl 1 rfl) ?_
    refine va_get (D := (dC, dI)) (ci := 0) (v := .ref qco2) (C := "PagedHart") (T := TX0) (N := 6) hx hb hts mU0 hown hK hP 0 rfl rfl 2 (by decide) (hts _ mF_0_17) (fun _ h9 => h9) rfl dX0_control_20 ?_
    refine lv_iload_n hx hb dX0_control_23 rfl (lv_at hl 0 rfl) ?_
    refine va_iald (D := (dC, dI)) hx hb hK hP 3 0 rfl rfl (by rw [ex1]; exact h_in3 (by rw [← ex1]; exact c2)) dX0_control_24 ?_
    exact gIretX (v := st.2.2.1 x1.toNatClampNeg) (u := st) hx hb hr hlocks (by subst ex1; exact (((if_pos c2).trans rfl)).symm) hK hP hD hS dX0_control_25
  · exact gThrowN (u := st) hnt hts hx hb hml hown hlocks htb hl.1 hK hP hD hS hX dX0_control_9 dX0_control_12 dX0_control_13 dX0_control_15 dX0_control_18 (Nat.le_of_ble_eq_true rfl) (Nat.le_of_ble_eq_true rfl) (Nat.le_of_ble_eq_true rfl) (Nat.le_of_ble_eq_true rfl) (by subst ex1; exact (((if_neg c2).trans rfl)).symm)

def h_setControl (st : HS) (p1 : Int32) (p2 : Int32) : Option HS :=
  let x1 : Int32 := h_slotOf p1
  if 0 ≤ x1 then
    some (st.1, st.2.1, upd st.2.2.1 x1.toNatClampNeg (p2 &&& (hBit x1.toNatClampNeg)), st.2.2.2.1, st.2.2.2.2.1, st.2.2.2.2.2)
  else
    none
set_option maxHeartbeats 4000000 in
set_option maxRecDepth 100000 in
theorem ch_setControl (l : Launch) (dC : Nat → ClassId) (dI : Nat → Nat → Nat) (cI h0 qme0 qre1 qco2 tN tB : Nat) (hnt : l.stackTraces = false) (sa : Nat) (sz : Nat) (st : HS) (p1 : Int32) (p2 : Int32)  : vx_Met l yX0_setControl (.code yX0_setControl cX0_setControl 4 none :: gBIG) ({ frames := 6, cells := 1, slots := 6, locals := 90 }) (va_Pc [.ref h0, .int p1, .int p2] (gPreX "java/util/NoSuchElementException" "no control of that number" 60 sa dC dI cI h0 qme0 qre1 qco2 tN tB sz st)) (va_Qv (fun v => some v = h_setControl st p1 p2) (gB dC dI cI h0 qme0 qre1 qco2 (gA h0 qme0 qre1 qco2 sz)) (gA h0 qme0 qre1 qco2 sz)) (vx_X (fun v : HS => v = st ∧ none = h_setControl st p1 p2) (fun E v t => E = "java/util/NoSuchElementException" ∧ gB dC dI cI h0 qme0 qre1 qco2 (gA h0 qme0 qre1 qco2 sz) v t) (gA h0 qme0 qre1 qco2 sz)) 1 6 (gA h0 qme0 qre1 qco2 sz) := by
  refine vx_ofW (cc := cX0_setControl) (maxL := 4) (ret := none) (by decide) rfl ?_
  intro p e s m args below meth c s₁ B hml htb hv
  obtain ⟨rfl, ⟨hsz, hP, hK, hD0, hZ⟩, hX⟩ := hv
  have hx := B.exec
  have hb := B.bytes
  have hr := B.returns
  have hts : ∀ w ∈ gBIG, w.before _ s = true := fun w h => atoms_spec (ws := (.code yX0_setControl cX0_setControl 4 none :: gBIG)) B.pre w (List.mem_cons_of_mem _ h)
  have hown : s.vm.findClass "PagedHart" = some m.cls := findClass_of_methodNamed B.named
  have hlocks := B.notSynchronized
  subst hsz
  have hD : va_D (gA h0 qme0 qre1 qco2 s.heap.size) (gW cI h0 qme0 qre1 qco2 st) := gD hD0
  have hS : va_S (gA h0 qme0 qre1 qco2 s.heap.size) s.heap s.heap [] := va_S.rf
  have hP : va_P (dC, dI) vwCl (gW cI h0 qme0 qre1 qco2 st) s.heap := hP
  have hl := lv_entry ([.ref h0, .int p1, .int p2]) (n := 4) (Nat.le_of_ble_eq_true rfl)
  rw [lg_entry_eq]
  generalize (lg_sl ([.ref h0, .int p1, .int p2]) ++ List.replicate (4 - (lg_sl ([.ref h0, .int p1, .int p2])).length) Slot.unset).toArray = ls at hl ⊢
  refine jgo (P := fun H locs => va_P (dC, dI) vwCl (gW cI h0 qme0 qre1 qco2 st) H ∧ va_S (gA h0 qme0 qre1 qco2 s.heap.size) s.heap H locs) ⟨hP, hS⟩ (fun H locs hPS => ?_)
  obtain ⟨hP, hS⟩ := hPS
  have hl : lv_has ls 4 [(0, .ref h0), (1, .int p1), (2, .int p2)] := hl
  refine lv_iload_n hx hb dX0_setControl_0 rfl (lv_at hl 1 rfl) ?_
  refine W.callR (W.runS (As := [.int p1]) (rest := []) ⟨hx, hb, hml, hown, hts⟩ (ch_slotOf l tN tB p1) (cwS 1 hts (gS mL_0_54 mS_0_slotOf mN_0 mB_0_slotOf) rfl rfl rfl (by decide +kernel) ⟨Nat.le_of_ble_eq_true rfl, Nat.le_of_ble_eq_true rfl⟩) ⟨gZblind, fun U hU hW => ⟨rfl, gZpOf hS hZ U hU hW⟩⟩ rfl rfl hl.1 rfl (lv_room (Nat.le_of_ble_eq_true rfl)) dX0_setControl_1 ⟨Nat.zero_le _, Nat.zero_le _⟩) ?_
  refine W.eq (g2 := F0 m 4 ls (.int (h_slotOf p1) :: [])) rfl ?_
  refine lv_topi (fun x1 ex1 => ?_)
  refine lv_istore_n (lv' := [(3, .int x1), (0, .ref h0), (1, .int p1), (2, .int p2)]) hx hb dX0_setControl_4 rfl hl (by decide) rfl (fun ls hl => ?_)
  refine lv_iload_n hx hb dX0_setControl_5 rfl (lv_at hl 0 rfl) ?_
  refine lv_if_ge (tgt := 19) hx hb dX0_setControl_6 (by decide) (fun c2 => ?_) (fun c2 => ?_)
  · refine lv_aload_n hx hb dX0_setControl_19 rfl (lv_at hl 1 rfl) ?_
    refine va_get (D := (dC, dI)) (ci := 0) (v := .ref qco2) (C := "PagedHart") (T := TX0) (N := 6) hx hb hts mU0 hown hK hP 0 rfl rfl 2 (by decide) (hts _ mF_0_17) (fun _ h9 => h9) rfl dX0_setControl_20 ?_
    refine lv_iload_n hx hb dX0_setControl_23 rfl (lv_at hl 0 rfl) ?_
    refine lv_iload_n hx hb dX0_setControl_24 rfl (lv_at hl 3 rfl) ?_
    refine va_gets hx hb hZ.2.2.1 hS hown (hts _ mF_0_63) (fun _ h => h) dX0_setControl_25 ?_
    refine lv_iload_n hx hb dX0_setControl_28 rfl (lv_at hl 0 rfl) ?_
    refine va_ti hx hb hZ.2.2.2 hS (by rw [ex1]; exact h_in3 (by rw [← ex1]; exact c2)) (v := .int (hBit x1.toNatClampNeg)) rfl dX0_setControl_29 ?_
    refine lv_iand hx hb dX0_setControl_30 ?_
    refine va_iast (D := (dC, dI)) hx hb hK hP hD hS 3 0 rfl rfl (by rw [ex1]; exact h_in3 (by rw [← ex1]; exact c2)) dX0_setControl_31 (fun H locs hP hD hS => ?_)
    have hP : va_P (dC, dI) vwCl (gW cI h0 qme0 qre1 qco2 (st.1, st.2.1, upd st.2.2.1 x1.toNatClampNeg (p2 &&& (hBit x1.toNatClampNeg)), st.2.2.2.1, st.2.2.2.2.1, st.2.2.2.2.2)) H := hP
    have hD : va_D (gA h0 qme0 qre1 qco2 s.heap.size) (gW cI h0 qme0 qre1 qco2 (st.1, st.2.1, upd st.2.2.1 x1.toNatClampNeg (p2 &&& (hBit x1.toNatClampNeg)), st.2.2.2.1, st.2.2.2.2.1, st.2.2.2.2.2)) := hD
    exact gVretX (u := (st.1, st.2.1, upd st.2.2.1 x1.toNatClampNeg (p2 &&& (hBit x1.toNatClampNeg)), st.2.2.2.1, st.2.2.2.2.1, st.2.2.2.2.2)) hx hb hr hlocks (by subst ex1; exact (((if_pos c2).trans rfl)).symm) hK hP hD hS dX0_setControl_32
  · exact gThrowN (u := st) hnt hts hx hb hml hown hlocks htb hl.1 hK hP hD hS hX dX0_setControl_9 dX0_setControl_12 dX0_setControl_13 dX0_setControl_15 dX0_setControl_18 (Nat.le_of_ble_eq_true rfl) (Nat.le_of_ble_eq_true rfl) (Nat.le_of_ble_eq_true rfl) (Nat.le_of_ble_eq_true rfl) (by subst ex1; exact (((if_neg c2).trans rfl)).symm)
