def h_call (st : HS)  : Int32 × HS :=
  if st.2.2.2.2.1 = 0 then
    let z3 : Int32 × HS := h_trap st (8 : Int32) (0 : Int32)
    z3
  else
    let z2 : Int32 × HS := h_goOn (st.1, st.2.1, st.2.2.1, st.2.2.2.1, st.2.2.2.2.1, (1 : Int32))
    z2
set_option maxHeartbeats 4000000 in
set_option maxRecDepth 100000 in
theorem ch_call (l : Launch) (dC : Nat → ClassId) (dI : Nat → Nat → Nat) (cI h0 qme0 qre1 qco2 tN tB : Nat) (sz : Nat) (st : HS)   : Met l yX0_call (.code yX0_call cX0_call 1 (some .boolean) :: gBIG) ({ frames := 1, cells := 0, slots := 0, locals := 22 }) (va_Pc [.ref h0] (gPre dC dI cI h0 qme0 qre1 qco2 tN tB sz st)) (va_Qi (fun r v => (r, v) = h_call st) (gB dC dI cI h0 qme0 qre1 qco2 (gA h0 qme0 qre1 qco2 sz)) (gA h0 qme0 qre1 qco2 sz)) 0 0 (gA h0 qme0 qre1 qco2 sz) := by
  refine Met.ofW (cc := cX0_call) (maxL := 1) (ret := (some .boolean)) (by decide) rfl ?_
  intro p e s m args below meth c s₁ B hml hv
  obtain ⟨rfl, hsz, hP, hK, hD0, hZ⟩ := hv
  have hx := B.exec
  have hb := B.bytes
  have hr := B.returns
  have hts : ∀ w ∈ gBIG, w.before _ s = true := fun w h => atoms_spec (ws := (.code yX0_call cX0_call 1 (some .boolean) :: gBIG)) B.pre w (List.mem_cons_of_mem _ h)
  have hown : s.vm.findClass "PagedHart" = some m.cls := findClass_of_methodNamed B.named
  have hlocks := B.notSynchronized
  subst hsz
  have hD : va_D (gA h0 qme0 qre1 qco2 s.heap.size) (gW cI h0 qme0 qre1 qco2 st) := gD hD0
  have hS : va_S (gA h0 qme0 qre1 qco2 s.heap.size) s.heap s.heap [] := va_S.rf
  have hP : va_P (dC, dI) vwCl (gW cI h0 qme0 qre1 qco2 st) s.heap := hP
  have hl := lv_entry ([.ref h0]) (n := 1) (Nat.le_of_ble_eq_true rfl)
  rw [lg_entry_eq]
  generalize (lg_sl ([.ref h0]) ++ List.replicate (1 - (lg_sl ([.ref h0])).length) Slot.unset).toArray = ls at hl ⊢
  refine jgo (P := fun H locs => va_P (dC, dI) vwCl (gW cI h0 qme0 qre1 qco2 st) H ∧ va_S (gA h0 qme0 qre1 qco2 s.heap.size) s.heap H locs) ⟨hP, hS⟩ (fun H locs hPS => ?_)
  obtain ⟨hP, hS⟩ := hPS
  have hl : lv_has ls 1 [(0, .ref h0)] := hl
  refine lv_aload_n hx hb dX0_call_0 rfl (lv_at hl 0 rfl) ?_
  refine va_get (D := (dC, dI)) (ci := 0) (v := .int st.2.2.2.2.1) (C := "PagedHart") (T := TX0) (N := 6) hx hb hts mU0 hown hK hP 0 rfl rfl 4 (by decide) (hts _ mF_0_24) (fun _ h9 => h9) rfl dX0_call_1 ?_
  refine lv_if_ne (tgt := 15) hx hb dX0_call_4 (by decide) (fun c1 => ?_) (fun c1 => ?_)
  · refine lv_aload_n hx hb dX0_call_15 rfl (lv_at hl 0 rfl) ?_
    refine lv_iconst (v := 1) hx hb dX0_call_16 (by decide) ?_
    refine va_put (D := (dC, dI)) (ci := 0) (v := .int 1) (ty := .boolean) (C := "PagedHart") (T := TX0) (N := 6) hx hb hts mU0 tyX0 tyX0_ok nmX0 hown hK hP hD hS 0 rfl rfl 5 (by decide) (hts _ mF_0_27) (fun _ h9 => h9) rfl (by decide +kernel) rfl rfl (Nat.le_of_ble_eq_true rfl) dX0_call_17 (fun H locs hP hD hS => ?_)
    have hP : va_P (dC, dI) vwCl (gW cI h0 qme0 qre1 qco2 (st.1, st.2.1, st.2.2.1, st.2.2.2.1, st.2.2.2.2.1, (1 : Int32))) H := hP
    have hD : va_D (gA h0 qme0 qre1 qco2 s.heap.size) (gW cI h0 qme0 qre1 qco2 (st.1, st.2.1, st.2.2.1, st.2.2.2.1, st.2.2.2.2.1, (1 : Int32))) := hD
    refine lv_aload_n hx hb dX0_call_20 rfl (lv_at hl 0 rfl) ?_
    refine gMi (As := []) (rest := []) (f := h_goOn (st.1, st.2.1, st.2.2.1, st.2.2.2.1, st.2.2.2.2.1, (1 : Int32))) ⟨hx, hb, hml, hown, hts⟩ (ch_goOn l dC dI cI h0 qme0 qre1 qco2 tN tB H.size (st.1, st.2.1, st.2.2.1, st.2.2.2.1, st.2.2.2.2.1, (1 : Int32)) ) (cwV 0 hts (gV mL_0_115 mI_0_goOn mX_0_goOn mN_0 mB_0_goOn) rfl rfl rfl (by decide +kernel) ⟨Nat.le_of_ble_eq_true rfl, Nat.le_of_ble_eq_true rfl⟩) hK hP hD hS hZ rfl hl.1 rfl (Nat.le_of_ble_eq_true rfl) dX0_call_21 ⟨Nat.zero_le _, Nat.zero_le _⟩ (fun z2 ez2 H locs hP hD hS => ?_)
    have hP : va_P (dC, dI) vwCl (gW cI h0 qme0 qre1 qco2 z2.2) H := hP
    have hD : va_D (gA h0 qme0 qre1 qco2 s.heap.size) (gW cI h0 qme0 qre1 qco2 z2.2) := hD
    exact gZret (v := z2.1) (u := z2.2) hx hb hr hlocks (jnb (by rw [ez2]; exact hb_goOn (st.1, st.2.1, st.2.2.1, st.2.2.2.1, st.2.2.2.2.1, (1 : Int32)))) (by subst ez2; exact (((if_neg c1).trans rfl)).symm) hK hP hD hS dX0_call_24
  · refine lv_aload_n hx hb dX0_call_7 rfl (lv_at hl 0 rfl) ?_
    refine lv_bipush (v := 8) hx hb dX0_call_8 (by decide) ?_
    refine lv_iconst (v := 0) hx hb dX0_call_10 (by decide) ?_
    refine gMi (As := [.int 8, .int 0]) (rest := []) (f := h_trap st (8 : Int32) (0 : Int32)) ⟨hx, hb, hml, hown, hts⟩ (ch_trap l dC dI cI h0 qme0 qre1 qco2 tN tB H.size st (8 : Int32) (0 : Int32)) (cwV 2 hts (gV mL_0_96 mI_0_trap mX_0_trap mN_0 mB_0_trap) rfl rfl rfl (by decide +kernel) ⟨Nat.le_of_ble_eq_true rfl, Nat.le_of_ble_eq_true rfl⟩) hK hP hD hS hZ rfl hl.1 rfl (Nat.le_of_ble_eq_true rfl) dX0_call_11 ⟨Nat.zero_le _, Nat.zero_le _⟩ (fun z3 ez3 H locs hP hD hS => ?_)
    have hP : va_P (dC, dI) vwCl (gW cI h0 qme0 qre1 qco2 z3.2) H := hP
    have hD : va_D (gA h0 qme0 qre1 qco2 s.heap.size) (gW cI h0 qme0 qre1 qco2 z3.2) := hD
    exact gZret (v := z3.1) (u := z3.2) hx hb hr hlocks (jnb (by rw [ez3]; exact hb_trap st (8 : Int32) (0 : Int32))) (by subst ez3; exact (((if_pos c1).trans rfl)).symm) hK hP hD hS dX0_call_14
theorem hb_call (st : HS)  : (h_call st ).1 = 0 ∨ (h_call st ).1 = 1 := by
  unfold h_call
  try dsimp only
  (repeat' split) <;> first | with_reducible exact hb_trap _ _ _ | with_reducible exact hb_refuse _ _ | with_reducible exact hb_goOn _ | with_reducible exact hb_goOnWith _ _ _ | with_reducible exact hb_jump _ _ _ | with_reducible exact hb_branch _ _ | with_reducible exact hb_load _ _ | with_reducible exact hb_store _ _ | with_reducible exact hb_calculateWithNumber _ _ | with_reducible exact hb_calculateWithRegister _ _ | exact Or.inl rfl | exact Or.inr rfl

def h_returnFromTrap (st : HS)  : Int32 × HS :=
  let x1 : Int32 := (jush (st.2.2.1 (0 : Int32).toNatClampNeg) (8 : Int32)) &&& (1 : Int32)
  ((1 : Int32), (st.1, st.2.1, upd st.2.2.1 (0 : Int32).toNatClampNeg ((st.2.2.1 (0 : Int32).toNatClampNeg) &&& ((-257) : Int32)), st.2.2.1 (3 : Int32).toNatClampNeg, x1, st.2.2.2.2.2))
set_option maxHeartbeats 4000000 in
set_option maxRecDepth 100000 in
theorem ch_returnFromTrap (l : Launch) (dC : Nat → ClassId) (dI : Nat → Nat → Nat) (cI h0 qme0 qre1 qco2 tN tB : Nat) (sz : Nat) (st : HS)   : Met l yX0_returnFromTrap (.code yX0_returnFromTrap cX0_returnFromTrap 1 (some .boolean) :: gBIG) ({ frames := 0, cells := 0, slots := 0, locals := 0 }) (va_Pc [.ref h0] (gPre dC dI cI h0 qme0 qre1 qco2 tN tB sz st)) (va_Qi (fun r v => (r, v) = h_returnFromTrap st) (gB dC dI cI h0 qme0 qre1 qco2 (gA h0 qme0 qre1 qco2 sz)) (gA h0 qme0 qre1 qco2 sz)) 0 0 (gA h0 qme0 qre1 qco2 sz) := by
  refine Met.ofW (cc := cX0_returnFromTrap) (maxL := 1) (ret := (some .boolean)) (by decide) rfl ?_
  intro p e s m args below meth c s₁ B hml hv
  obtain ⟨rfl, hsz, hP, hK, hD0, hZ⟩ := hv
  have hx := B.exec
  have hb := B.bytes
  have hr := B.returns
  have hts : ∀ w ∈ gBIG, w.before _ s = true := fun w h => atoms_spec (ws := (.code yX0_returnFromTrap cX0_returnFromTrap 1 (some .boolean) :: gBIG)) B.pre w (List.mem_cons_of_mem _ h)
  have hown : s.vm.findClass "PagedHart" = some m.cls := findClass_of_methodNamed B.named
  have hlocks := B.notSynchronized
  subst hsz
  have hD : va_D (gA h0 qme0 qre1 qco2 s.heap.size) (gW cI h0 qme0 qre1 qco2 st) := gD hD0
  have hS : va_S (gA h0 qme0 qre1 qco2 s.heap.size) s.heap s.heap [] := va_S.rf
  have hP : va_P (dC, dI) vwCl (gW cI h0 qme0 qre1 qco2 st) s.heap := hP
  have hl := lv_entry ([.ref h0]) (n := 1) (Nat.le_of_ble_eq_true rfl)
  rw [lg_entry_eq]
  generalize (lg_sl ([.ref h0]) ++ List.replicate (1 - (lg_sl ([.ref h0])).length) Slot.unset).toArray = ls at hl ⊢
  refine jgo (P := fun H locs => va_P (dC, dI) vwCl (gW cI h0 qme0 qre1 qco2 st) H ∧ va_S (gA h0 qme0 qre1 qco2 s.heap.size) s.heap H locs) ⟨hP, hS⟩ (fun H locs hPS => ?_)
  obtain ⟨hP, hS⟩ := hPS
  have hl : lv_has ls 1 [(0, .ref h0)] := hl
  refine lv_aload_n hx hb dX0_returnFromTrap_0 rfl (lv_at hl 0 rfl) ?_
  refine lv_aload_n hx hb dX0_returnFromTrap_1 rfl (lv_at hl 0 rfl) ?_
  refine va_get (D := (dC, dI)) (ci := 0) (v := .ref qco2) (C := "PagedHart") (T := TX0) (N := 6) hx hb hts mU0 hown hK hP 0 rfl rfl 2 (by decide) (hts _ mF_0_17) (fun _ h9 => h9) rfl dX0_returnFromTrap_2 ?_
  refine lv_iconst (v := 3) hx hb dX0_returnFromTrap_5 (by decide) ?_
  refine va_iald (D := (dC, dI)) hx hb hK hP 3 0 rfl rfl (jin (by decide)) dX0_returnFromTrap_6 ?_
  refine va_put (D := (dC, dI)) (ci := 0) (v := .int (st.2.2.1 (3 : Int32).toNatClampNeg)) (ty := .int) (C := "PagedHart") (T := TX0) (N := 6) hx hb hts mU0 tyX0 tyX0_ok nmX0 hown hK hP hD hS 0 rfl rfl 3 (by decide) (hts _ mF_0_20) (fun _ h9 => h9) rfl (by decide +kernel) rfl rfl (Nat.le_of_ble_eq_true rfl) dX0_returnFromTrap_7 (fun H locs hP hD hS => ?_)
  have hP : va_P (dC, dI) vwCl (gW cI h0 qme0 qre1 qco2 (st.1, st.2.1, st.2.2.1, st.2.2.1 (3 : Int32).toNatClampNeg, st.2.2.2.2.1, st.2.2.2.2.2)) H := hP
  have hD : va_D (gA h0 qme0 qre1 qco2 s.heap.size) (gW cI h0 qme0 qre1 qco2 (st.1, st.2.1, st.2.2.1, st.2.2.1 (3 : Int32).toNatClampNeg, st.2.2.2.2.1, st.2.2.2.2.2)) := hD
  refine lv_aload_n hx hb dX0_returnFromTrap_10 rfl (lv_at hl 0 rfl) ?_
  refine lv_aload_n hx hb dX0_returnFromTrap_11 rfl (lv_at hl 0 rfl) ?_
  refine va_get (D := (dC, dI)) (ci := 0) (v := .ref qco2) (C := "PagedHart") (T := TX0) (N := 6) hx hb hts mU0 hown hK hP 0 rfl rfl 2 (by decide) (hts _ mF_0_17) (fun _ h9 => h9) rfl dX0_returnFromTrap_12 ?_
  refine lv_iconst (v := 0) hx hb dX0_returnFromTrap_15 (by decide) ?_
  refine va_iald (D := (dC, dI)) hx hb hK hP 3 0 rfl rfl (jin (by decide)) dX0_returnFromTrap_16 ?_
  refine lv_bipush (v := 8) hx hb dX0_returnFromTrap_17 (by decide) ?_
  refine lv_iushr (v := jush (st.2.2.1 (0 : Int32).toNatClampNeg) (8 : Int32)) hx hb dX0_returnFromTrap_19 rfl ?_
  refine lv_iconst (v := 1) hx hb dX0_returnFromTrap_20 (by decide) ?_
  refine lv_iand hx hb dX0_returnFromTrap_21 ?_
  refine lv_topi (fun x1 ex1 => ?_)
  refine va_put (D := (dC, dI)) (ci := 0) (v := .int x1) (ty := .int) (C := "PagedHart") (T := TX0) (N := 6) hx hb hts mU0 tyX0 tyX0_ok nmX0 hown hK hP hD hS 0 rfl rfl 4 (by decide) (hts _ mF_0_24) (fun _ h9 => h9) rfl (by decide +kernel) rfl rfl (Nat.le_of_ble_eq_true rfl) dX0_returnFromTrap_22 (fun H locs hP hD hS => ?_)
  have hP : va_P (dC, dI) vwCl (gW cI h0 qme0 qre1 qco2 (st.1, st.2.1, st.2.2.1, st.2.2.1 (3 : Int32).toNatClampNeg, x1, st.2.2.2.2.2)) H := hP
  have hD : va_D (gA h0 qme0 qre1 qco2 s.heap.size) (gW cI h0 qme0 qre1 qco2 (st.1, st.2.1, st.2.2.1, st.2.2.1 (3 : Int32).toNatClampNeg, x1, st.2.2.2.2.2)) := hD
  refine lv_aload_n hx hb dX0_returnFromTrap_25 rfl (lv_at hl 0 rfl) ?_
  refine va_get (D := (dC, dI)) (ci := 0) (v := .ref qco2) (C := "PagedHart") (T := TX0) (N := 6) hx hb hts mU0 hown hK hP 0 rfl rfl 2 (by decide) (hts _ mF_0_17) (fun _ h9 => h9) rfl dX0_returnFromTrap_26 ?_
  refine lv_iconst (v := 0) hx hb dX0_returnFromTrap_29 (by decide) ?_
  refine lv_dup2_11 hx hb dX0_returnFromTrap_30 rfl rfl ?_
  refine va_iald (D := (dC, dI)) hx hb hK hP 3 0 rfl rfl (jin (by decide)) dX0_returnFromTrap_31 ?_
  refine lv_sipush (v := (-257)) hx hb dX0_returnFromTrap_32 (by decide) ?_
  refine lv_iand hx hb dX0_returnFromTrap_35 ?_
  refine va_iast (D := (dC, dI)) hx hb hK hP hD hS 3 0 rfl rfl (jin (by decide)) dX0_returnFromTrap_36 (fun H locs hP hD hS => ?_)
  have hP : va_P (dC, dI) vwCl (gW cI h0 qme0 qre1 qco2 (st.1, st.2.1, upd st.2.2.1 (0 : Int32).toNatClampNeg ((st.2.2.1 (0 : Int32).toNatClampNeg) &&& ((-257) : Int32)), st.2.2.1 (3 : Int32).toNatClampNeg, x1, st.2.2.2.2.2)) H := hP
  have hD : va_D (gA h0 qme0 qre1 qco2 s.heap.size) (gW cI h0 qme0 qre1 qco2 (st.1, st.2.1, upd st.2.2.1 (0 : Int32).toNatClampNeg ((st.2.2.1 (0 : Int32).toNatClampNeg) &&& ((-257) : Int32)), st.2.2.1 (3 : Int32).toNatClampNeg, x1, st.2.2.2.2.2)) := hD
  refine lv_iconst (v := 1) hx hb dX0_returnFromTrap_37 (by decide) ?_
  exact gZret (v := 1) (u := (st.1, st.2.1, upd st.2.2.1 (0 : Int32).toNatClampNeg ((st.2.2.1 (0 : Int32).toNatClampNeg) &&& ((-257) : Int32)), st.2.2.1 (3 : Int32).toNatClampNeg, x1, st.2.2.2.2.2)) hx hb hr hlocks rfl (by subst ex1; exact (rfl).symm) hK hP hD hS dX0_returnFromTrap_38
theorem hb_returnFromTrap (st : HS)  : (h_returnFromTrap st ).1 = 0 ∨ (h_returnFromTrap st ).1 = 1 := by
  unfold h_returnFromTrap
  try dsimp only
  (repeat' split) <;> first | with_reducible exact hb_trap _ _ _ | with_reducible exact hb_refuse _ _ | with_reducible exact hb_goOn _ | with_reducible exact hb_goOnWith _ _ _ | with_reducible exact hb_jump _ _ _ | with_reducible exact hb_branch _ _ | with_reducible exact hb_load _ _ | with_reducible exact hb_store _ _ | with_reducible exact hb_calculateWithNumber _ _ | with_reducible exact hb_calculateWithRegister _ _ | with_reducible exact hb_call _ | exact Or.inl rfl | exact Or.inr rfl

def h_changeControl (st : HS) (p1 : Int32) : Int32 × HS :=
  let x1 : Int32 := h_fOf p1
  let x2 : Int32 := h_slotOf (jush p1 (20 : Int32))
  if x1 = (4 : Int32) then
    let z4 : Int32 × HS := h_refuse st p1
    z4
  else
    if 0 ≤ x2 then
      let x6 : Int32 := st.2.2.1 x2.toNatClampNeg
      if x1 ≤ (4 : Int32) then
        let x8 : Int32 := h_aOf st p1
        let x9 : Int32 := h_changed (x1 &&& (3 : Int32)) x6 x8
        let z10 : Int32 × HS := h_goOnWith (st.1, st.2.1, upd st.2.2.1 x2.toNatClampNeg (x9 &&& (hBit x2.toNatClampNeg)), st.2.2.2.1, st.2.2.2.2.1, st.2.2.2.2.2) p1 x6
        z10
      else
        let x11 : Int32 := (jush p1 (15 : Int32)) &&& (31 : Int32)
        let x12 : Int32 := h_changed (x1 &&& (3 : Int32)) x6 x11
        let z13 : Int32 × HS := h_goOnWith (st.1, st.2.1, upd st.2.2.1 x2.toNatClampNeg (x12 &&& (hBit x2.toNatClampNeg)), st.2.2.2.1, st.2.2.2.2.1, st.2.2.2.2.2) p1 x6
        z13
    else
      let z14 : Int32 × HS := h_refuse st p1
      z14
set_option maxHeartbeats 4000000 in
set_option maxRecDepth 100000 in
theorem ch_changeControl (l : Launch) (dC : Nat → ClassId) (dI : Nat → Nat → Nat) (cI h0 qme0 qre1 qco2 tN tB : Nat) (sz : Nat) (st : HS) (p1 : Int32)  : Met l yX0_changeControl (.code yX0_changeControl cX0_changeControl 6 (some .boolean) :: gBIG) ({ frames := 2, cells := 0, slots := 0, locals := 45 }) (va_Pc [.ref h0, .int p1] (gPre dC dI cI h0 qme0 qre1 qco2 tN tB sz st)) (va_Qi (fun r v => (r, v) = h_changeControl st p1) (gB dC dI cI h0 qme0 qre1 qco2 (gA h0 qme0 qre1 qco2 sz)) (gA h0 qme0 qre1 qco2 sz)) 0 0 (gA h0 qme0 qre1 qco2 sz) := by
  refine Met.ofW (cc := cX0_changeControl) (maxL := 6) (ret := (some .boolean)) (by decide) rfl ?_
  intro p e s m args below meth c s₁ B hml hv
  obtain ⟨rfl, hsz, hP, hK, hD0, hZ⟩ := hv
  have hx := B.exec
  have hb := B.bytes
  have hr := B.returns
  have hts : ∀ w ∈ gBIG, w.before _ s = true := fun w h => atoms_spec (ws := (.code yX0_changeControl cX0_changeControl 6 (some .boolean) :: gBIG)) B.pre w (List.mem_cons_of_mem _ h)
  have hown : s.vm.findClass "PagedHart" = some m.cls := findClass_of_methodNamed B.named
  have hlocks := B.notSynchronized
  subst hsz
  have hD : va_D (gA h0 qme0 qre1 qco2 s.heap.size) (gW cI h0 qme0 qre1 qco2 st) := gD hD0
  have hS : va_S (gA h0 qme0 qre1 qco2 s.heap.size) s.heap s.heap [] := va_S.rf
  have hP : va_P (dC, dI) vwCl (gW cI h0 qme0 qre1 qco2 st) s.heap := hP
  have hl := lv_entry ([.ref h0, .int p1]) (n := 6) (Nat.le_of_ble_eq_true rfl)
  rw [lg_entry_eq]
  generalize (lg_sl ([.ref h0, .int p1]) ++ List.replicate (6 - (lg_sl ([.ref h0, .int p1])).length) Slot.unset).toArray = ls at hl ⊢
  refine jgo (P := fun H locs => va_P (dC, dI) vwCl (gW cI h0 qme0 qre1 qco2 st) H ∧ va_S (gA h0 qme0 qre1 qco2 s.heap.size) s.heap H locs) ⟨hP, hS⟩ (fun H locs hPS => ?_)
  obtain ⟨hP, hS⟩ := hPS
  have hl : lv_has ls 6 [(0, .ref h0), (1, .int p1)] := hl
  refine lv_iload_n hx hb dX0_changeControl_0 rfl (lv_at hl 1 rfl) ?_
  refine W.callR (W.runS (As := [.int p1]) (rest := []) ⟨hx, hb, hml, hown, hts⟩ (ch_fOf l p1) (cwS 1 hts (gS mL_0_131 mS_0_fOf mN_0 mB_0_fOf) rfl rfl rfl (by decide +kernel) ⟨Nat.le_of_ble_eq_true rfl, Nat.le_of_ble_eq_true rfl⟩) ⟨jblind, fun _ _ _ => ⟨rfl, trivial⟩⟩ rfl rfl hl.1 rfl (lv_room (Nat.le_of_ble_eq_true rfl)) dX0_changeControl_1 ⟨Nat.zero_le _, Nat.zero_le _⟩) ?_
  refine W.eq (g2 := F0 m 4 ls (.int (h_fOf p1) :: [])) rfl ?_
  refine lv_topi (fun x1 ex1 => ?_)
  refine lv_istore_n (lv' := [(2, .int x1), (0, .ref h0), (1, .int p1)]) hx hb dX0_changeControl_4 rfl hl (by decide) rfl (fun ls hl => ?_)
  refine lv_iload_n hx hb dX0_changeControl_5 rfl (lv_at hl 2 rfl) ?_
  refine lv_bipush (v := 20) hx hb dX0_changeControl_6 (by decide) ?_
  refine lv_iushr (v := jush p1 (20 : Int32)) hx hb dX0_changeControl_8 rfl ?_
  refine W.callR (W.runS (As := [.int (jush p1 (20 : Int32))]) (rest := []) ⟨hx, hb, hml, hown, hts⟩ (ch_slotOf l tN tB (jush p1 (20 : Int32))) (cwS 1 hts (gS mL_0_54 mS_0_slotOf mN_0 mB_0_slotOf) rfl rfl rfl (by decide +kernel) ⟨Nat.le_of_ble_eq_true rfl, Nat.le_of_ble_eq_true rfl⟩) ⟨gZblind, fun U hU hW => ⟨rfl, gZpOf hS hZ U hU hW⟩⟩ rfl rfl hl.1 rfl (lv_room (Nat.le_of_ble_eq_true rfl)) dX0_changeControl_9 ⟨Nat.zero_le _, Nat.zero_le _⟩) ?_
  refine W.eq (g2 := F0 m 12 ls (.int (h_slotOf (jush p1 (20 : Int32))) :: [])) rfl ?_
  refine lv_topi (fun x2 ex2 => ?_)
  refine lv_istore_n (lv' := [(3, .int x2), (2, .int x1), (0, .ref h0), (1, .int p1)]) hx hb dX0_changeControl_12 rfl hl (by decide) rfl (fun ls hl => ?_)
  refine lv_iload_n hx hb dX0_changeControl_13 rfl (lv_at hl 1 rfl) ?_
  refine lv_iconst (v := 4) hx hb dX0_changeControl_14 (by decide) ?_
  refine lv_icmp_eq (tgt := 22) hx hb dX0_changeControl_15 (by decide) (fun c3 => ?_) (fun c3 => ?_)
  · refine lv_aload_n hx hb dX0_changeControl_22 rfl (lv_at hl 2 rfl) ?_
    refine lv_iload_n hx hb dX0_changeControl_23 rfl (lv_at hl 3 rfl) ?_
    refine gMi (As := [.int p1]) (rest := []) (f := h_refuse st p1) ⟨hx, hb, hml, hown, hts⟩ (ch_refuse l dC dI cI h0 qme0 qre1 qco2 tN tB H.size st p1) (cwV 1 hts (gV mL_0_140 mI_0_refuse mX_0_refuse mN_0 mB_0_refuse) rfl rfl rfl (by decide +kernel) ⟨Nat.le_of_ble_eq_true rfl, Nat.le_of_ble_eq_true rfl⟩) hK hP hD hS hZ rfl hl.1 rfl (Nat.le_of_ble_eq_true rfl) dX0_changeControl_24 ⟨Nat.zero_le _, Nat.zero_le _⟩ (fun z4 ez4 H locs hP hD hS => ?_)
    have hP : va_P (dC, dI) vwCl (gW cI h0 qme0 qre1 qco2 z4.2) H := hP
    have hD : va_D (gA h0 qme0 qre1 qco2 s.heap.size) (gW cI h0 qme0 qre1 qco2 z4.2) := hD
    exact gZret (v := z4.1) (u := z4.2) hx hb hr hlocks (jnb (by rw [ez4]; exact hb_refuse st p1)) (by subst ez4 ex2 ex1; exact (((if_pos c3).trans rfl)).symm) hK hP hD hS dX0_changeControl_27
  · refine lv_iload_n hx hb dX0_changeControl_18 rfl (lv_at hl 0 rfl) ?_
    refine lv_if_ge (tgt := 28) hx hb dX0_changeControl_19 (by decide) (fun c5 => ?_) (fun c5 => ?_)
    · refine lv_aload_n hx hb dX0_changeControl_28 rfl (lv_at hl 2 rfl) ?_
      refine va_get (D := (dC, dI)) (ci := 0) (v := .ref qco2) (C := "PagedHart") (T := TX0) (N := 6) hx hb hts mU0 hown hK hP 0 rfl rfl 2 (by decide) (hts _ mF_0_17) (fun _ h9 => h9) rfl dX0_changeControl_29 ?_
      refine lv_iload_n hx hb dX0_changeControl_32 rfl (lv_at hl 0 rfl) ?_
      refine va_iald (D := (dC, dI)) hx hb hK hP 3 0 rfl rfl (by rw [ex2]; exact h_in3 (by rw [← ex2]; exact c5)) dX0_changeControl_33 ?_
      refine lv_topi (fun x6 ex6 => ?_)
      refine lv_istore (lv' := [(4, .int x6), (3, .int x2), (2, .int x1), (0, .ref h0), (1, .int p1)]) hx hb dX0_changeControl_34 hl (by decide) rfl (fun ls hl => ?_)
      refine lv_iload_n hx hb dX0_changeControl_36 rfl (lv_at hl 2 rfl) ?_
      refine lv_iconst (v := 4) hx hb dX0_changeControl_37 (by decide) ?_
      refine lv_icmp_le (tgt := 51) hx hb dX0_changeControl_38 (by decide) (fun c7 => ?_) (fun c7 => ?_)
      · refine lv_aload_n hx hb dX0_changeControl_51 rfl (lv_at hl 3 rfl) ?_
        refine lv_iload_n hx hb dX0_changeControl_52 rfl (lv_at hl 4 rfl) ?_
        refine gR (As := [.int p1]) (rest := []) (f := h_aOf st p1) ⟨hx, hb, hml, hown, hts⟩ (ch_aOf l dC dI cI h0 qme0 qre1 qco2 tN tB H.size st p1) (cwV 1 hts (gV mL_0_134 mI_0_aOf mX_0_aOf mN_0 mB_0_aOf) rfl rfl rfl (by decide +kernel) ⟨Nat.le_of_ble_eq_true rfl, Nat.le_of_ble_eq_true rfl⟩) hK hP hD hS hZ rfl hl.1 rfl (Nat.le_of_ble_eq_true rfl) dX0_changeControl_53 ⟨Nat.zero_le _, Nat.zero_le _⟩ ?_
        refine lv_topi (fun x8 ex8 => ?_)
        refine lv_istore (lv' := [(5, .int x8), (4, .int x6), (3, .int x2), (2, .int x1), (0, .ref h0), (1, .int p1)]) hx hb dX0_changeControl_56 hl (by decide) rfl (fun ls hl => ?_)
        refine lv_aload_n hx hb dX0_changeControl_58 rfl (lv_at hl 4 rfl) ?_
        refine va_get (D := (dC, dI)) (ci := 0) (v := .ref qco2) (C := "PagedHart") (T := TX0) (N := 6) hx hb hts mU0 hown hK hP 0 rfl rfl 2 (by decide) (hts _ mF_0_17) (fun _ h9 => h9) rfl dX0_changeControl_59 ?_
        refine lv_iload_n hx hb dX0_changeControl_62 rfl (lv_at hl 2 rfl) ?_
        refine lv_iload_n hx hb dX0_changeControl_63 rfl (lv_at hl 3 rfl) ?_
        refine lv_iconst (v := 3) hx hb dX0_changeControl_64 (by decide) ?_
        refine lv_iand hx hb dX0_changeControl_65 ?_
        refine lv_iload hx hb dX0_changeControl_66 (lv_at hl 1 rfl) ?_
        refine lv_iload hx hb dX0_changeControl_68 (lv_at hl 0 rfl) ?_
        refine W.callR (W.runS (As := [.int (x1 &&& (3 : Int32)), .int x6, .int x8]) (rest := [.int x2, .ref qco2]) ⟨hx, hb, hml, hown, hts⟩ (ch_changed l (x1 &&& (3 : Int32)) x6 x8) (cwS 3 hts (gS mL_0_212 mS_0_changed mN_0 mB_0_changed) rfl rfl rfl (by decide +kernel) ⟨Nat.le_of_ble_eq_true rfl, Nat.le_of_ble_eq_true rfl⟩) ⟨jblind, fun _ _ _ => ⟨rfl, trivial⟩⟩ rfl rfl hl.1 rfl (lv_room (Nat.le_of_ble_eq_true rfl)) dX0_changeControl_70 ⟨Nat.zero_le _, Nat.zero_le _⟩) ?_
        refine W.eq (g2 := F0 m 73 ls (.int (h_changed (x1 &&& (3 : Int32)) x6 x8) :: [.int x2, .ref qco2])) rfl ?_
        refine lv_topi (fun x9 ex9 => ?_)
        refine va_gets hx hb hZ.2.2.1 hS hown (hts _ mF_0_63) (fun _ h => h) dX0_changeControl_73 ?_
        refine lv_iload_n hx hb dX0_changeControl_76 rfl (lv_at hl 2 rfl) ?_
        refine va_ti hx hb hZ.2.2.2 hS (by rw [ex2]; exact h_in3 (by rw [← ex2]; exact c5)) (v := .int (hBit x2.toNatClampNeg)) rfl dX0_changeControl_77 ?_
        refine lv_iand hx hb dX0_changeControl_78 ?_
        refine va_iast (D := (dC, dI)) hx hb hK hP hD hS 3 0 rfl rfl (by rw [ex2]; exact h_in3 (by rw [← ex2]; exact c5)) dX0_changeControl_79 (fun H locs hP hD hS => ?_)
        have hP : va_P (dC, dI) vwCl (gW cI h0 qme0 qre1 qco2 (st.1, st.2.1, upd st.2.2.1 x2.toNatClampNeg (x9 &&& (hBit x2.toNatClampNeg)), st.2.2.2.1, st.2.2.2.2.1, st.2.2.2.2.2)) H := hP
        have hD : va_D (gA h0 qme0 qre1 qco2 s.heap.size) (gW cI h0 qme0 qre1 qco2 (st.1, st.2.1, upd st.2.2.1 x2.toNatClampNeg (x9 &&& (hBit x2.toNatClampNeg)), st.2.2.2.1, st.2.2.2.2.1, st.2.2.2.2.2)) := hD
        refine lv_aload_n hx hb dX0_changeControl_80 rfl (lv_at hl 4 rfl) ?_
        refine lv_iload_n hx hb dX0_changeControl_81 rfl (lv_at hl 5 rfl) ?_
        refine lv_iload hx hb dX0_changeControl_82 (lv_at hl 1 rfl) ?_
        refine gMi (As := [.int p1, .int x6]) (rest := []) (f := h_goOnWith (st.1, st.2.1, upd st.2.2.1 x2.toNatClampNeg (x9 &&& (hBit x2.toNatClampNeg)), st.2.2.2.1, st.2.2.2.2.1, st.2.2.2.2.2) p1 x6) ⟨hx, hb, hml, hown, hts⟩ (ch_goOnWith l dC dI cI h0 qme0 qre1 qco2 tN tB H.size (st.1, st.2.1, upd st.2.2.1 x2.toNatClampNeg (x9 &&& (hBit x2.toNatClampNeg)), st.2.2.2.1, st.2.2.2.2.1, st.2.2.2.2.2) p1 x6) (cwV 2 hts (gV mL_0_122 mI_0_goOnWith mX_0_goOnWith mN_0 mB_0_goOnWith) rfl rfl rfl (by decide +kernel) ⟨Nat.le_of_ble_eq_true rfl, Nat.le_of_ble_eq_true rfl⟩) hK hP hD hS hZ rfl hl.1 rfl (Nat.le_of_ble_eq_true rfl) dX0_changeControl_84 ⟨Nat.zero_le _, Nat.zero_le _⟩ (fun z10 ez10 H locs hP hD hS => ?_)
        have hP : va_P (dC, dI) vwCl (gW cI h0 qme0 qre1 qco2 z10.2) H := hP
        have hD : va_D (gA h0 qme0 qre1 qco2 s.heap.size) (gW cI h0 qme0 qre1 qco2 z10.2) := hD
        exact gZret (v := z10.1) (u := z10.2) hx hb hr hlocks (jnb (by rw [ez10]; exact hb_goOnWith (st.1, st.2.1, upd st.2.2.1 x2.toNatClampNeg (x9 &&& (hBit x2.toNatClampNeg)), st.2.2.2.1, st.2.2.2.2.1, st.2.2.2.2.2) p1 x6)) (by subst ez10 ex9 ex8 ex6 ex2 ex1; exact (((if_neg c3).trans ((if_pos c5).trans ((if_pos c7).trans rfl)))).symm) hK hP hD hS dX0_changeControl_87
      · refine lv_iload_n hx hb dX0_changeControl_41 rfl (lv_at hl 4 rfl) ?_
        refine lv_bipush (v := 15) hx hb dX0_changeControl_42 (by decide) ?_
        refine lv_iushr (v := jush p1 (15 : Int32)) hx hb dX0_changeControl_44 rfl ?_
        refine lv_bipush (v := 31) hx hb dX0_changeControl_45 (by decide) ?_
        refine lv_iand hx hb dX0_changeControl_47 ?_
        refine lv_goto (tgt := 56) hx hb dX0_changeControl_48 (by decide) ?_
        refine lv_topi (fun x11 ex11 => ?_)
        refine lv_istore (lv' := [(5, .int x11), (4, .int x6), (3, .int x2), (2, .int x1), (0, .ref h0), (1, .int p1)]) hx hb dX0_changeControl_56 hl (by decide) rfl (fun ls hl => ?_)
        refine lv_aload_n hx hb dX0_changeControl_58 rfl (lv_at hl 4 rfl) ?_
        refine va_get (D := (dC, dI)) (ci := 0) (v := .ref qco2) (C := "PagedHart") (T := TX0) (N := 6) hx hb hts mU0 hown hK hP 0 rfl rfl 2 (by decide) (hts _ mF_0_17) (fun _ h9 => h9) rfl dX0_changeControl_59 ?_
        refine lv_iload_n hx hb dX0_changeControl_62 rfl (lv_at hl 2 rfl) ?_
        refine lv_iload_n hx hb dX0_changeControl_63 rfl (lv_at hl 3 rfl) ?_
        refine lv_iconst (v := 3) hx hb dX0_changeControl_64 (by decide) ?_
        refine lv_iand hx hb dX0_changeControl_65 ?_
        refine lv_iload hx hb dX0_changeControl_66 (lv_at hl 1 rfl) ?_
        refine lv_iload hx hb dX0_changeControl_68 (lv_at hl 0 rfl) ?_
        refine W.callR (W.runS (As := [.int (x1 &&& (3 : Int32)), .int x6, .int x11]) (rest := [.int x2, .ref qco2]) ⟨hx, hb, hml, hown, hts⟩ (ch_changed l (x1 &&& (3 : Int32)) x6 x11) (cwS 3 hts (gS mL_0_212 mS_0_changed mN_0 mB_0_changed) rfl rfl rfl (by decide +kernel) ⟨Nat.le_of_ble_eq_true rfl, Nat.le_of_ble_eq_true rfl⟩) ⟨jblind, fun _ _ _ => ⟨rfl, trivial⟩⟩ rfl rfl hl.1 rfl (lv_room (Nat.le_of_ble_eq_true rfl)) dX0_changeControl_70 ⟨Nat.zero_le _, Nat.zero_le _⟩) ?_
        refine W.eq (g2 := F0 m 73 ls (.int (h_changed (x1 &&& (3 : Int32)) x6 x11) :: [.int x2, .ref qco2])) rfl ?_
        refine lv_topi (fun x12 ex12 => ?_)
        refine va_gets hx hb hZ.2.2.1 hS hown (hts _ mF_0_63) (fun _ h => h) dX0_changeControl_73 ?_
        refine lv_iload_n hx hb dX0_changeControl_76 rfl (lv_at hl 2 rfl) ?_
        refine va_ti hx hb hZ.2.2.2 hS (by rw [ex2]; exact h_in3 (by rw [← ex2]; exact c5)) (v := .int (hBit x2.toNatClampNeg)) rfl dX0_changeControl_77 ?_
        refine lv_iand hx hb dX0_changeControl_78 ?_
        refine va_iast (D := (dC, dI)) hx hb hK hP hD hS 3 0 rfl rfl (by rw [ex2]; exact h_in3 (by rw [← ex2]; exact c5)) dX0_changeControl_79 (fun H locs hP hD hS => ?_)
        have hP : va_P (dC, dI) vwCl (gW cI h0 qme0 qre1 qco2 (st.1, st.2.1, upd st.2.2.1 x2.toNatClampNeg (x12 &&& (hBit x2.toNatClampNeg)), st.2.2.2.1, st.2.2.2.2.1, st.2.2.2.2.2)) H := hP
        have hD : va_D (gA h0 qme0 qre1 qco2 s.heap.size) (gW cI h0 qme0 qre1 qco2 (st.1, st.2.1, upd st.2.2.1 x2.toNatClampNeg (x12 &&& (hBit x2.toNatClampNeg)), st.2.2.2.1, st.2.2.2.2.1, st.2.2.2.2.2)) := hD
        refine lv_aload_n hx hb dX0_changeControl_80 rfl (lv_at hl 4 rfl) ?_
        refine lv_iload_n hx hb dX0_changeControl_81 rfl (lv_at hl 5 rfl) ?_
        refine lv_iload hx hb dX0_changeControl_82 (lv_at hl 1 rfl) ?_
        refine gMi (As := [.int p1, .int x6]) (rest := []) (f := h_goOnWith (st.1, st.2.1, upd st.2.2.1 x2.toNatClampNeg (x12 &&& (hBit x2.toNatClampNeg)), st.2.2.2.1, st.2.2.2.2.1, st.2.2.2.2.2) p1 x6) ⟨hx, hb, hml, hown, hts⟩ (ch_goOnWith l dC dI cI h0 qme0 qre1 qco2 tN tB H.size (st.1, st.2.1, upd st.2.2.1 x2.toNatClampNeg (x12 &&& (hBit x2.toNatClampNeg)), st.2.2.2.1, st.2.2.2.2.1, st.2.2.2.2.2) p1 x6) (cwV 2 hts (gV mL_0_122 mI_0_goOnWith mX_0_goOnWith mN_0 mB_0_goOnWith) rfl rfl rfl (by decide +kernel) ⟨Nat.le_of_ble_eq_true rfl, Nat.le_of_ble_eq_true rfl⟩) hK hP hD hS hZ rfl hl.1 rfl (Nat.le_of_ble_eq_true rfl) dX0_changeControl_84 ⟨Nat.zero_le _, Nat.zero_le _⟩ (fun z13 ez13 H locs hP hD hS => ?_)
        have hP : va_P (dC, dI) vwCl (gW cI h0 qme0 qre1 qco2 z13.2) H := hP
        have hD : va_D (gA h0 qme0 qre1 qco2 s.heap.size) (gW cI h0 qme0 qre1 qco2 z13.2) := hD
        exact gZret (v := z13.1) (u := z13.2) hx hb hr hlocks (jnb (by rw [ez13]; exact hb_goOnWith (st.1, st.2.1, upd st.2.2.1 x2.toNatClampNeg (x12 &&& (hBit x2.toNatClampNeg)), st.2.2.2.1, st.2.2.2.2.1, st.2.2.2.2.2) p1 x6)) (by subst ez13 ex12 ex11 ex6 ex2 ex1; exact (((if_neg c3).trans ((if_pos c5).trans ((if_neg c7).trans rfl)))).symm) hK hP hD hS dX0_changeControl_87
    · refine lv_aload_n hx hb dX0_changeControl_22 rfl (lv_at hl 2 rfl) ?_
      refine lv_iload_n hx hb dX0_changeControl_23 rfl (lv_at hl 3 rfl) ?_
      refine gMi (As := [.int p1]) (rest := []) (f := h_refuse st p1) ⟨hx, hb, hml, hown, hts⟩ (ch_refuse l dC dI cI h0 qme0 qre1 qco2 tN tB H.size st p1) (cwV 1 hts (gV mL_0_140 mI_0_refuse mX_0_refuse mN_0 mB_0_refuse) rfl rfl rfl (by decide +kernel) ⟨Nat.le_of_ble_eq_true rfl, Nat.le_of_ble_eq_true rfl⟩) hK hP hD hS hZ rfl hl.1 rfl (Nat.le_of_ble_eq_true rfl) dX0_changeControl_24 ⟨Nat.zero_le _, Nat.zero_le _⟩ (fun z14 ez14 H locs hP hD hS => ?_)
      have hP : va_P (dC, dI) vwCl (gW cI h0 qme0 qre1 qco2 z14.2) H := hP
      have hD : va_D (gA h0 qme0 qre1 qco2 s.heap.size) (gW cI h0 qme0 qre1 qco2 z14.2) := hD
      exact gZret (v := z14.1) (u := z14.2) hx hb hr hlocks (jnb (by rw [ez14]; exact hb_refuse st p1)) (by subst ez14 ex2 ex1; exact (((if_neg c3).trans ((if_neg c5).trans rfl))).symm) hK hP hD hS dX0_changeControl_27
theorem hb_changeControl (st : HS) (p1 : Int32) : (h_changeControl st p1).1 = 0 ∨ (h_changeControl st p1).1 = 1 := by
  unfold h_changeControl
  try dsimp only
  (repeat' split) <;> first | with_reducible exact hb_trap _ _ _ | with_reducible exact hb_refuse _ _ | with_reducible exact hb_goOn _ | with_reducible exact hb_goOnWith _ _ _ | with_reducible exact hb_jump _ _ _ | with_reducible exact hb_branch _ _ | with_reducible exact hb_load _ _ | with_reducible exact hb_store _ _ | with_reducible exact hb_calculateWithNumber _ _ | with_reducible exact hb_calculateWithRegister _ _ | with_reducible exact hb_call _ | with_reducible exact hb_returnFromTrap _ | exact Or.inl rfl | exact Or.inr rfl

def h_performSystem (st : HS) (p1 : Int32) : Int32 × HS :=
  if p1 = (115 : Int32) then
    let z16 : Int32 × HS := h_call st
    z16
  else
    if p1 = (1048691 : Int32) then
      let z15 : Int32 × HS := h_trap st (3 : Int32) st.2.2.2.1
      z15
    else
      if st.2.2.2.2.1 = 0 then
        let z14 : Int32 × HS := h_refuse st p1
        z14
      else
        let x4 : Int32 := h_fOf p1
        if x4 = 0 then
          if p1 = (270532723 : Int32) then
            let z12 : Int32 × HS := h_returnFromTrap st
            z12
          else
            if p1 = (273678451 : Int32) then
              let z8 : Int32 × HS := h_goOn st
              z8
            else
              if (p1 &&& ((-33521665) : Int32)) = (301990003 : Int32) then
                let z11 : Int32 × HS := h_goOn st
                z11
              else
                let z10 : Int32 × HS := h_refuse st p1
                z10
        else
          let z13 : Int32 × HS := h_changeControl st p1
          z13
set_option maxHeartbeats 4000000 in
set_option maxRecDepth 100000 in
theorem ch_performSystem (l : Launch) (dC : Nat → ClassId) (dI : Nat → Nat → Nat) (cI h0 qme0 qre1 qco2 tN tB : Nat) (sz : Nat) (st : HS) (p1 : Int32)  : Met l yX0_performSystem (.code yX0_performSystem cX0_performSystem 2 (some .boolean) :: gBIG) ({ frames := 3, cells := 0, slots := 0, locals := 70 }) (va_Pc [.ref h0, .int p1] (gPre dC dI cI h0 qme0 qre1 qco2 tN tB sz st)) (va_Qi (fun r v => (r, v) = h_performSystem st p1) (gB dC dI cI h0 qme0 qre1 qco2 (gA h0 qme0 qre1 qco2 sz)) (gA h0 qme0 qre1 qco2 sz)) 0 0 (gA h0 qme0 qre1 qco2 sz) := by
  refine Met.ofW (cc := cX0_performSystem) (maxL := 2) (ret := (some .boolean)) (by decide) rfl ?_
  intro p e s m args below meth c s₁ B hml hv
  obtain ⟨rfl, hsz, hP, hK, hD0, hZ⟩ := hv
  have hx := B.exec
  have hb := B.bytes
  have hr := B.returns
  have hts : ∀ w ∈ gBIG, w.before _ s = true := fun w h => atoms_spec (ws := (.code yX0_performSystem cX0_performSystem 2 (some .boolean) :: gBIG)) B.pre w (List.mem_cons_of_mem _ h)
  have hown : s.vm.findClass "PagedHart" = some m.cls := findClass_of_methodNamed B.named
  have hlocks := B.notSynchronized
  subst hsz
  have hD : va_D (gA h0 qme0 qre1 qco2 s.heap.size) (gW cI h0 qme0 qre1 qco2 st) := gD hD0
  have hS : va_S (gA h0 qme0 qre1 qco2 s.heap.size) s.heap s.heap [] := va_S.rf
  have hP : va_P (dC, dI) vwCl (gW cI h0 qme0 qre1 qco2 st) s.heap := hP
  have hl := lv_entry ([.ref h0, .int p1]) (n := 2) (Nat.le_of_ble_eq_true rfl)
  rw [lg_entry_eq]
  generalize (lg_sl ([.ref h0, .int p1]) ++ List.replicate (2 - (lg_sl ([.ref h0, .int p1])).length) Slot.unset).toArray = ls at hl ⊢
  refine jgo (P := fun H locs => va_P (dC, dI) vwCl (gW cI h0 qme0 qre1 qco2 st) H ∧ va_S (gA h0 qme0 qre1 qco2 s.heap.size) s.heap H locs) ⟨hP, hS⟩ (fun H locs hPS => ?_)
  obtain ⟨hP, hS⟩ := hPS
  have hl : lv_has ls 2 [(0, .ref h0), (1, .int p1)] := hl
  refine lv_iload_n hx hb dX0_performSystem_0 rfl (lv_at hl 1 rfl) ?_
  refine lv_bipush (v := 115) hx hb dX0_performSystem_1 (by decide) ?_
  refine lv_icmp_ne (tgt := 11) hx hb dX0_performSystem_3 (by decide) (fun c1 => ?_) (fun c1 => ?_)
  · refine lv_iload_n hx hb dX0_performSystem_11 rfl (lv_at hl 1 rfl) ?_
    refine lv_ldc (v := 1048691) hx hb hown (hts _ mC_0_201) dX0_performSystem_12 ?_
    refine lv_icmp_ne (tgt := 27) hx hb dX0_performSystem_14 (by decide) (fun c2 => ?_) (fun c2 => ?_)
    · refine lv_aload_n hx hb dX0_performSystem_27 rfl (lv_at hl 0 rfl) ?_
      refine va_get (D := (dC, dI)) (ci := 0) (v := .int st.2.2.2.2.1) (C := "PagedHart") (T := TX0) (N := 6) hx hb hts mU0 hown hK hP 0 rfl rfl 4 (by decide) (hts _ mF_0_24) (fun _ h9 => h9) rfl dX0_performSystem_28 ?_
      refine lv_if_ne (tgt := 40) hx hb dX0_performSystem_31 (by decide) (fun c3 => ?_) (fun c3 => ?_)
      · refine lv_iload_n hx hb dX0_performSystem_40 rfl (lv_at hl 1 rfl) ?_
        refine W.callR (W.runS (As := [.int p1]) (rest := []) ⟨hx, hb, hml, hown, hts⟩ (ch_fOf l p1) (cwS 1 hts (gS mL_0_131 mS_0_fOf mN_0 mB_0_fOf) rfl rfl rfl (by decide +kernel) ⟨Nat.le_of_ble_eq_true rfl, Nat.le_of_ble_eq_true rfl⟩) ⟨jblind, fun _ _ _ => ⟨rfl, trivial⟩⟩ rfl rfl hl.1 rfl (lv_room (Nat.le_of_ble_eq_true rfl)) dX0_performSystem_41 ⟨Nat.zero_le _, Nat.zero_le _⟩) ?_
        refine W.eq (g2 := F0 m 44 ls (.int (h_fOf p1) :: [])) rfl ?_
        refine lv_topi (fun x4 ex4 => ?_)
        refine lv_if_eq (tgt := 53) hx hb dX0_performSystem_44 (by decide) (fun c5 => ?_) (fun c5 => ?_)
        · refine lv_iload_n hx hb dX0_performSystem_53 rfl (lv_at hl 1 rfl) ?_
          refine lv_ldc (v := 270532723) hx hb hown (hts _ mC_0_205) dX0_performSystem_54 ?_
          refine lv_icmp_ne (tgt := 64) hx hb dX0_performSystem_56 (by decide) (fun c6 => ?_) (fun c6 => ?_)
          · refine lv_iload_n hx hb dX0_performSystem_64 rfl (lv_at hl 1 rfl) ?_
            refine lv_ldc (v := 273678451) hx hb hown (hts _ mC_0_209) dX0_performSystem_65 ?_
            refine lv_icmp_eq (tgt := 79) hx hb dX0_performSystem_67 (by decide) (fun c7 => ?_) (fun c7 => ?_)
            · refine lv_aload_n hx hb dX0_performSystem_79 rfl (lv_at hl 0 rfl) ?_
              refine gMi (As := []) (rest := []) (f := h_goOn st) ⟨hx, hb, hml, hown, hts⟩ (ch_goOn l dC dI cI h0 qme0 qre1 qco2 tN tB H.size st ) (cwV 0 hts (gV mL_0_115 mI_0_goOn mX_0_goOn mN_0 mB_0_goOn) rfl rfl rfl (by decide +kernel) ⟨Nat.le_of_ble_eq_true rfl, Nat.le_of_ble_eq_true rfl⟩) hK hP hD hS hZ rfl hl.1 rfl (Nat.le_of_ble_eq_true rfl) dX0_performSystem_80 ⟨Nat.zero_le _, Nat.zero_le _⟩ (fun z8 ez8 H locs hP hD hS => ?_)
              have hP : va_P (dC, dI) vwCl (gW cI h0 qme0 qre1 qco2 z8.2) H := hP
              have hD : va_D (gA h0 qme0 qre1 qco2 s.heap.size) (gW cI h0 qme0 qre1 qco2 z8.2) := hD
              exact gZret (v := z8.1) (u := z8.2) hx hb hr hlocks (jnb (by rw [ez8]; exact hb_goOn st)) (by subst ez8 ex4; exact (((if_neg c1).trans ((if_neg c2).trans ((if_neg c3).trans ((if_pos c5).trans ((if_neg c6).trans ((if_pos c7).trans rfl))))))).symm) hK hP hD hS dX0_performSystem_83
            · refine lv_iload_n hx hb dX0_performSystem_70 rfl (lv_at hl 1 rfl) ?_
              refine lv_ldc (v := (-33521665)) hx hb hown (hts _ mC_0_210) dX0_performSystem_71 ?_
              refine lv_iand hx hb dX0_performSystem_73 ?_
              refine lv_ldc (v := 301990003) hx hb hown (hts _ mC_0_211) dX0_performSystem_74 ?_
              refine lv_icmp_ne (tgt := 84) hx hb dX0_performSystem_76 (by decide) (fun c9 => ?_) (fun c9 => ?_)
              · refine lv_aload_n hx hb dX0_performSystem_84 rfl (lv_at hl 0 rfl) ?_
                refine lv_iload_n hx hb dX0_performSystem_85 rfl (lv_at hl 1 rfl) ?_
                refine gMi (As := [.int p1]) (rest := []) (f := h_refuse st p1) ⟨hx, hb, hml, hown, hts⟩ (ch_refuse l dC dI cI h0 qme0 qre1 qco2 tN tB H.size st p1) (cwV 1 hts (gV mL_0_140 mI_0_refuse mX_0_refuse mN_0 mB_0_refuse) rfl rfl rfl (by decide +kernel) ⟨Nat.le_of_ble_eq_true rfl, Nat.le_of_ble_eq_true rfl⟩) hK hP hD hS hZ rfl hl.1 rfl (Nat.le_of_ble_eq_true rfl) dX0_performSystem_86 ⟨Nat.zero_le _, Nat.zero_le _⟩ (fun z10 ez10 H locs hP hD hS => ?_)
                have hP : va_P (dC, dI) vwCl (gW cI h0 qme0 qre1 qco2 z10.2) H := hP
                have hD : va_D (gA h0 qme0 qre1 qco2 s.heap.size) (gW cI h0 qme0 qre1 qco2 z10.2) := hD
                exact gZret (v := z10.1) (u := z10.2) hx hb hr hlocks (jnb (by rw [ez10]; exact hb_refuse st p1)) (by subst ez10 ex4; exact (((if_neg c1).trans ((if_neg c2).trans ((if_neg c3).trans ((if_pos c5).trans ((if_neg c6).trans ((if_neg c7).trans ((if_neg c9).trans rfl)))))))).symm) hK hP hD hS dX0_performSystem_89
              · refine lv_aload_n hx hb dX0_performSystem_79 rfl (lv_at hl 0 rfl) ?_
                refine gMi (As := []) (rest := []) (f := h_goOn st) ⟨hx, hb, hml, hown, hts⟩ (ch_goOn l dC dI cI h0 qme0 qre1 qco2 tN tB H.size st ) (cwV 0 hts (gV mL_0_115 mI_0_goOn mX_0_goOn mN_0 mB_0_goOn) rfl rfl rfl (by decide +kernel) ⟨Nat.le_of_ble_eq_true rfl, Nat.le_of_ble_eq_true rfl⟩) hK hP hD hS hZ rfl hl.1 rfl (Nat.le_of_ble_eq_true rfl) dX0_performSystem_80 ⟨Nat.zero_le _, Nat.zero_le _⟩ (fun z11 ez11 H locs hP hD hS => ?_)
                have hP : va_P (dC, dI) vwCl (gW cI h0 qme0 qre1 qco2 z11.2) H := hP
                have hD : va_D (gA h0 qme0 qre1 qco2 s.heap.size) (gW cI h0 qme0 qre1 qco2 z11.2) := hD
                exact gZret (v := z11.1) (u := z11.2) hx hb hr hlocks (jnb (by rw [ez11]; exact hb_goOn st)) (by subst ez11 ex4; exact (((if_neg c1).trans ((if_neg c2).trans ((if_neg c3).trans ((if_pos c5).trans ((if_neg c6).trans ((if_neg c7).trans ((if_pos c9).trans rfl)))))))).symm) hK hP hD hS dX0_performSystem_83
          · refine lv_aload_n hx hb dX0_performSystem_59 rfl (lv_at hl 0 rfl) ?_
            refine gMi (As := []) (rest := []) (f := h_returnFromTrap st) ⟨hx, hb, hml, hown, hts⟩ (ch_returnFromTrap l dC dI cI h0 qme0 qre1 qco2 tN tB H.size st ) (cwV 0 hts (gV mL_0_206 mI_0_returnFromTrap mX_0_returnFromTrap mN_0 mB_0_returnFromTrap) rfl rfl rfl (by decide +kernel) ⟨Nat.le_of_ble_eq_true rfl, Nat.le_of_ble_eq_true rfl⟩) hK hP hD hS hZ rfl hl.1 rfl (Nat.le_of_ble_eq_true rfl) dX0_performSystem_60 ⟨Nat.zero_le _, Nat.zero_le _⟩ (fun z12 ez12 H locs hP hD hS => ?_)
            have hP : va_P (dC, dI) vwCl (gW cI h0 qme0 qre1 qco2 z12.2) H := hP
            have hD : va_D (gA h0 qme0 qre1 qco2 s.heap.size) (gW cI h0 qme0 qre1 qco2 z12.2) := hD
            exact gZret (v := z12.1) (u := z12.2) hx hb hr hlocks (jnb (by rw [ez12]; exact hb_returnFromTrap st)) (by subst ez12 ex4; exact (((if_neg c1).trans ((if_neg c2).trans ((if_neg c3).trans ((if_pos c5).trans ((if_pos c6).trans rfl)))))).symm) hK hP hD hS dX0_performSystem_63
        · refine lv_aload_n hx hb dX0_performSystem_47 rfl (lv_at hl 0 rfl) ?_
          refine lv_iload_n hx hb dX0_performSystem_48 rfl (lv_at hl 1 rfl) ?_
          refine gMi (As := [.int p1]) (rest := []) (f := h_changeControl st p1) ⟨hx, hb, hml, hown, hts⟩ (ch_changeControl l dC dI cI h0 qme0 qre1 qco2 tN tB H.size st p1) (cwV 1 hts (gV mL_0_202 mI_0_changeControl mX_0_changeControl mN_0 mB_0_changeControl) rfl rfl rfl (by decide +kernel) ⟨Nat.le_of_ble_eq_true rfl, Nat.le_of_ble_eq_true rfl⟩) hK hP hD hS hZ rfl hl.1 rfl (Nat.le_of_ble_eq_true rfl) dX0_performSystem_49 ⟨Nat.zero_le _, Nat.zero_le _⟩ (fun z13 ez13 H locs hP hD hS => ?_)
          have hP : va_P (dC, dI) vwCl (gW cI h0 qme0 qre1 qco2 z13.2) H := hP
          have hD : va_D (gA h0 qme0 qre1 qco2 s.heap.size) (gW cI h0 qme0 qre1 qco2 z13.2) := hD
          exact gZret (v := z13.1) (u := z13.2) hx hb hr hlocks (jnb (by rw [ez13]; exact hb_changeControl st p1)) (by subst ez13 ex4; exact (((if_neg c1).trans ((if_neg c2).trans ((if_neg c3).trans ((if_neg c5).trans rfl))))).symm) hK hP hD hS dX0_performSystem_52
      · refine lv_aload_n hx hb dX0_performSystem_34 rfl (lv_at hl 0 rfl) ?_
        refine lv_iload_n hx hb dX0_performSystem_35 rfl (lv_at hl 1 rfl) ?_
        refine gMi (As := [.int p1]) (rest := []) (f := h_refuse st p1) ⟨hx, hb, hml, hown, hts⟩ (ch_refuse l dC dI cI h0 qme0 qre1 qco2 tN tB H.size st p1) (cwV 1 hts (gV mL_0_140 mI_0_refuse mX_0_refuse mN_0 mB_0_refuse) rfl rfl rfl (by decide +kernel) ⟨Nat.le_of_ble_eq_true rfl, Nat.le_of_ble_eq_true rfl⟩) hK hP hD hS hZ rfl hl.1 rfl (Nat.le_of_ble_eq_true rfl) dX0_performSystem_36 ⟨Nat.zero_le _, Nat.zero_le _⟩ (fun z14 ez14 H locs hP hD hS => ?_)
        have hP : va_P (dC, dI) vwCl (gW cI h0 qme0 qre1 qco2 z14.2) H := hP
        have hD : va_D (gA h0 qme0 qre1 qco2 s.heap.size) (gW cI h0 qme0 qre1 qco2 z14.2) := hD
        exact gZret (v := z14.1) (u := z14.2) hx hb hr hlocks (jnb (by rw [ez14]; exact hb_refuse st p1)) (by subst ez14; exact (((if_neg c1).trans ((if_neg c2).trans ((if_pos c3).trans rfl)))).symm) hK hP hD hS dX0_performSystem_39
    · refine lv_aload_n hx hb dX0_performSystem_17 rfl (lv_at hl 0 rfl) ?_
      refine lv_iconst (v := 3) hx hb dX0_performSystem_18 (by decide) ?_
      refine lv_aload_n hx hb dX0_performSystem_19 rfl (lv_at hl 0 rfl) ?_
      refine va_get (D := (dC, dI)) (ci := 0) (v := .int st.2.2.2.1) (C := "PagedHart") (T := TX0) (N := 6) hx hb hts mU0 hown hK hP 0 rfl rfl 3 (by decide) (hts _ mF_0_20) (fun _ h9 => h9) rfl dX0_performSystem_20 ?_
      refine gMi (As := [.int 3, .int st.2.2.2.1]) (rest := []) (f := h_trap st (3 : Int32) st.2.2.2.1) ⟨hx, hb, hml, hown, hts⟩ (ch_trap l dC dI cI h0 qme0 qre1 qco2 tN tB H.size st (3 : Int32) st.2.2.2.1) (cwV 2 hts (gV mL_0_96 mI_0_trap mX_0_trap mN_0 mB_0_trap) rfl rfl rfl (by decide +kernel) ⟨Nat.le_of_ble_eq_true rfl, Nat.le_of_ble_eq_true rfl⟩) hK hP hD hS hZ rfl hl.1 rfl (Nat.le_of_ble_eq_true rfl) dX0_performSystem_23 ⟨Nat.zero_le _, Nat.zero_le _⟩ (fun z15 ez15 H locs hP hD hS => ?_)
      have hP : va_P (dC, dI) vwCl (gW cI h0 qme0 qre1 qco2 z15.2) H := hP
      have hD : va_D (gA h0 qme0 qre1 qco2 s.heap.size) (gW cI h0 qme0 qre1 qco2 z15.2) := hD
      exact gZret (v := z15.1) (u := z15.2) hx hb hr hlocks (jnb (by rw [ez15]; exact hb_trap st (3 : Int32) st.2.2.2.1)) (by subst ez15; exact (((if_neg c1).trans ((if_pos c2).trans rfl))).symm) hK hP hD hS dX0_performSystem_26
  · refine lv_aload_n hx hb dX0_performSystem_6 rfl (lv_at hl 0 rfl) ?_
    refine gMi (As := []) (rest := []) (f := h_call st) ⟨hx, hb, hml, hown, hts⟩ (ch_call l dC dI cI h0 qme0 qre1 qco2 tN tB H.size st ) (cwV 0 hts (gV mL_0_198 mI_0_call mX_0_call mN_0 mB_0_call) rfl rfl rfl (by decide +kernel) ⟨Nat.le_of_ble_eq_true rfl, Nat.le_of_ble_eq_true rfl⟩) hK hP hD hS hZ rfl hl.1 rfl (Nat.le_of_ble_eq_true rfl) dX0_performSystem_7 ⟨Nat.zero_le _, Nat.zero_le _⟩ (fun z16 ez16 H locs hP hD hS => ?_)
    have hP : va_P (dC, dI) vwCl (gW cI h0 qme0 qre1 qco2 z16.2) H := hP
    have hD : va_D (gA h0 qme0 qre1 qco2 s.heap.size) (gW cI h0 qme0 qre1 qco2 z16.2) := hD
    exact gZret (v := z16.1) (u := z16.2) hx hb hr hlocks (jnb (by rw [ez16]; exact hb_call st)) (by subst ez16; exact (((if_pos c1).trans rfl)).symm) hK hP hD hS dX0_performSystem_10
theorem hb_performSystem (st : HS) (p1 : Int32) : (h_performSystem st p1).1 = 0 ∨ (h_performSystem st p1).1 = 1 := by
  unfold h_performSystem
  try dsimp only
  (repeat' split) <;> first | with_reducible exact hb_trap _ _ _ | with_reducible exact hb_refuse _ _ | with_reducible exact hb_goOn _ | with_reducible exact hb_goOnWith _ _ _ | with_reducible exact hb_jump _ _ _ | with_reducible exact hb_branch _ _ | with_reducible exact hb_load _ _ | with_reducible exact hb_store _ _ | with_reducible exact hb_calculateWithNumber _ _ | with_reducible exact hb_calculateWithRegister _ _ | with_reducible exact hb_call _ | with_reducible exact hb_returnFromTrap _ | with_reducible exact hb_changeControl _ _ | exact Or.inl rfl | exact Or.inr rfl

def h_perform (st : HS) (p1 : Int32) : Int32 × HS :=
  if (p1 &&& (127 : Int32)) = 3 then
    let z2 : Int32 × HS := h_load st p1
    z2
  else
    if (p1 &&& (127 : Int32)) = 15 then
      let x4 : Int32 := h_fOf p1
      if x4 = 0 then
        let z7 : Int32 × HS := h_goOn st
        z7
      else
        let z6 : Int32 × HS := h_refuse st p1
        z6
    else
      if (p1 &&& (127 : Int32)) = 19 then
        let z9 : Int32 × HS := h_calculateWithNumber st p1
        z9
      else
        if (p1 &&& (127 : Int32)) = 23 then
          let x11 : Int32 := h_uOf p1
          let z12 : Int32 × HS := h_goOnWith st p1 (st.2.2.2.1 + x11)
          z12
        else
          if (p1 &&& (127 : Int32)) = 35 then
            let z14 : Int32 × HS := h_store st p1
            z14
          else
            if (p1 &&& (127 : Int32)) = 51 then
              let z16 : Int32 × HS := h_calculateWithRegister st p1
              z16
            else
              if (p1 &&& (127 : Int32)) = 55 then
                let x18 : Int32 := h_uOf p1
                let z19 : Int32 × HS := h_goOnWith st p1 x18
                z19
              else
                if (p1 &&& (127 : Int32)) = 99 then
                  let z21 : Int32 × HS := h_branch st p1
                  z21
                else
                  if (p1 &&& (127 : Int32)) = 103 then
                    let x23 : Int32 := h_fOf p1
                    if x23 = 0 then
                      let x26 : Int32 := h_aOf st p1
                      let x27 : Int32 := h_iOf p1
                      let z28 : Int32 × HS := h_jump st p1 ((x26 + x27) &&& ((-2) : Int32))
                      z28
                    else
                      let z25 : Int32 × HS := h_refuse st p1
                      z25
                  else
                    if (p1 &&& (127 : Int32)) = 111 then
                      let x30 : Int32 := h_jumpDistance p1
                      let z31 : Int32 × HS := h_jump st p1 (st.2.2.2.1 + x30)
                      z31
                    else
                      if (p1 &&& (127 : Int32)) = 115 then
                        let z33 : Int32 × HS := h_performSystem st p1
                        z33
                      else
                        let z34 : Int32 × HS := h_refuse st p1
                        z34
set_option maxHeartbeats 4000000 in
set_option maxRecDepth 100000 in
theorem ch_perform (l : Launch) (dC : Nat → ClassId) (dI : Nat → Nat → Nat) (cI h0 qme0 qre1 qco2 tN tB : Nat) (sz : Nat) (st : HS) (p1 : Int32)  : Met l yX0_perform (.code yX0_perform cX0_perform 2 (some .boolean) :: gBIG) ({ frames := 4, cells := 0, slots := 0, locals := 101 }) (va_Pc [.ref h0, .int p1] (gPre dC dI cI h0 qme0 qre1 qco2 tN tB sz st)) (va_Qi (fun r v => (r, v) = h_perform st p1) (gB dC dI cI h0 qme0 qre1 qco2 (gA h0 qme0 qre1 qco2 sz)) (gA h0 qme0 qre1 qco2 sz)) 0 0 (gA h0 qme0 qre1 qco2 sz) := by
  refine Met.ofW (cc := cX0_perform) (maxL := 2) (ret := (some .boolean)) (by decide) rfl ?_
  intro p e s m args below meth c s₁ B hml hv
  obtain ⟨rfl, hsz, hP, hK, hD0, hZ⟩ := hv
  have hx := B.exec
  have hb := B.bytes
  have hr := B.returns
  have hts : ∀ w ∈ gBIG, w.before _ s = true := fun w h => atoms_spec (ws := (.code yX0_perform cX0_perform 2 (some .boolean) :: gBIG)) B.pre w (List.mem_cons_of_mem _ h)
  have hown : s.vm.findClass "PagedHart" = some m.cls := findClass_of_methodNamed B.named
  have hlocks := B.notSynchronized
  subst hsz
  have hD : va_D (gA h0 qme0 qre1 qco2 s.heap.size) (gW cI h0 qme0 qre1 qco2 st) := gD hD0
  have hS : va_S (gA h0 qme0 qre1 qco2 s.heap.size) s.heap s.heap [] := va_S.rf
  have hP : va_P (dC, dI) vwCl (gW cI h0 qme0 qre1 qco2 st) s.heap := hP
  have hl := lv_entry ([.ref h0, .int p1]) (n := 2) (Nat.le_of_ble_eq_true rfl)
  rw [lg_entry_eq]
  generalize (lg_sl ([.ref h0, .int p1]) ++ List.replicate (2 - (lg_sl ([.ref h0, .int p1])).length) Slot.unset).toArray = ls at hl ⊢
  refine jgo (P := fun H locs => va_P (dC, dI) vwCl (gW cI h0 qme0 qre1 qco2 st) H ∧ va_S (gA h0 qme0 qre1 qco2 s.heap.size) s.heap H locs) ⟨hP, hS⟩ (fun H locs hPS => ?_)
  obtain ⟨hP, hS⟩ := hPS
  have hl : lv_has ls 2 [(0, .ref h0), (1, .int p1)] := hl
  refine lv_iload_n hx hb dX0_perform_0 rfl (lv_at hl 1 rfl) ?_
  refine lv_bipush (v := 127) hx hb dX0_perform_1 (by decide) ?_
  refine lv_iand hx hb dX0_perform_3 ?_
  by_cases c1 : (p1 &&& (127 : Int32)) = 3
  · refine lv_lookup (tgt := 184) (off := 180) hx hb dX0_perform_4 (by decide) (by rw [c1]; decide) (by decide) ?_
    refine lv_aload_n hx hb dX0_perform_184 rfl (lv_at hl 0 rfl) ?_
    refine lv_iload_n hx hb dX0_perform_185 rfl (lv_at hl 1 rfl) ?_
    refine gMi (As := [.int p1]) (rest := []) (f := h_load st p1) ⟨hx, hb, hml, hown, hts⟩ (ch_load l dC dI cI h0 qme0 qre1 qco2 tN tB H.size st p1) (cwV 1 hts (gV mL_0_146 mI_0_load mX_0_load mN_0 mB_0_load) rfl rfl rfl (by decide +kernel) ⟨Nat.le_of_ble_eq_true rfl, Nat.le_of_ble_eq_true rfl⟩) hK hP hD hS hZ rfl hl.1 rfl (Nat.le_of_ble_eq_true rfl) dX0_perform_186 ⟨Nat.zero_le _, Nat.zero_le _⟩ (fun z2 ez2 H locs hP hD hS => ?_)
    have hP : va_P (dC, dI) vwCl (gW cI h0 qme0 qre1 qco2 z2.2) H := hP
    have hD : va_D (gA h0 qme0 qre1 qco2 s.heap.size) (gW cI h0 qme0 qre1 qco2 z2.2) := hD
    exact gZret (v := z2.1) (u := z2.2) hx hb hr hlocks (jnb (by rw [ez2]; exact hb_load st p1)) (by subst ez2; exact (((if_pos c1).trans rfl)).symm) hK hP hD hS dX0_perform_189
  by_cases c3 : (p1 &&& (127 : Int32)) = 15
  · refine lv_lookup (tgt := 208) (off := 204) hx hb dX0_perform_4 (by decide) (by rw [c3]; decide) (by decide) ?_
    refine lv_iload_n hx hb dX0_perform_208 rfl (lv_at hl 1 rfl) ?_
    refine W.callR (W.runS (As := [.int p1]) (rest := []) ⟨hx, hb, hml, hown, hts⟩ (ch_fOf l p1) (cwS 1 hts (gS mL_0_131 mS_0_fOf mN_0 mB_0_fOf) rfl rfl rfl (by decide +kernel) ⟨Nat.le_of_ble_eq_true rfl, Nat.le_of_ble_eq_true rfl⟩) ⟨jblind, fun _ _ _ => ⟨rfl, trivial⟩⟩ rfl rfl hl.1 rfl (lv_room (Nat.le_of_ble_eq_true rfl)) dX0_perform_209 ⟨Nat.zero_le _, Nat.zero_le _⟩) ?_
    refine W.eq (g2 := F0 m 212 ls (.int (h_fOf p1) :: [])) rfl ?_
    refine lv_topi (fun x4 ex4 => ?_)
    refine lv_if_ne (tgt := 222) hx hb dX0_perform_212 (by decide) (fun c5 => ?_) (fun c5 => ?_)
    · refine lv_aload_n hx hb dX0_perform_222 rfl (lv_at hl 0 rfl) ?_
      refine lv_iload_n hx hb dX0_perform_223 rfl (lv_at hl 1 rfl) ?_
      refine gMi (As := [.int p1]) (rest := []) (f := h_refuse st p1) ⟨hx, hb, hml, hown, hts⟩ (ch_refuse l dC dI cI h0 qme0 qre1 qco2 tN tB H.size st p1) (cwV 1 hts (gV mL_0_140 mI_0_refuse mX_0_refuse mN_0 mB_0_refuse) rfl rfl rfl (by decide +kernel) ⟨Nat.le_of_ble_eq_true rfl, Nat.le_of_ble_eq_true rfl⟩) hK hP hD hS hZ rfl hl.1 rfl (Nat.le_of_ble_eq_true rfl) dX0_perform_224 ⟨Nat.zero_le _, Nat.zero_le _⟩ (fun z6 ez6 H locs hP hD hS => ?_)
      have hP : va_P (dC, dI) vwCl (gW cI h0 qme0 qre1 qco2 z6.2) H := hP
      have hD : va_D (gA h0 qme0 qre1 qco2 s.heap.size) (gW cI h0 qme0 qre1 qco2 z6.2) := hD
      exact gZret (v := z6.1) (u := z6.2) hx hb hr hlocks (jnb (by rw [ez6]; exact hb_refuse st p1)) (by subst ez6 ex4; exact (((if_neg c1).trans ((if_pos c3).trans ((if_neg c5).trans rfl)))).symm) hK hP hD hS dX0_perform_227
    · refine lv_aload_n hx hb dX0_perform_215 rfl (lv_at hl 0 rfl) ?_
      refine gMi (As := []) (rest := []) (f := h_goOn st) ⟨hx, hb, hml, hown, hts⟩ (ch_goOn l dC dI cI h0 qme0 qre1 qco2 tN tB H.size st ) (cwV 0 hts (gV mL_0_115 mI_0_goOn mX_0_goOn mN_0 mB_0_goOn) rfl rfl rfl (by decide +kernel) ⟨Nat.le_of_ble_eq_true rfl, Nat.le_of_ble_eq_true rfl⟩) hK hP hD hS hZ rfl hl.1 rfl (Nat.le_of_ble_eq_true rfl) dX0_perform_216 ⟨Nat.zero_le _, Nat.zero_le _⟩ (fun z7 ez7 H locs hP hD hS => ?_)
      have hP : va_P (dC, dI) vwCl (gW cI h0 qme0 qre1 qco2 z7.2) H := hP
      have hD : va_D (gA h0 qme0 qre1 qco2 s.heap.size) (gW cI h0 qme0 qre1 qco2 z7.2) := hD
      refine lv_goto (tgt := 227) hx hb dX0_perform_219 (by decide) ?_
      exact gZret (v := z7.1) (u := z7.2) hx hb hr hlocks (jnb (by rw [ez7]; exact hb_goOn st)) (by subst ez7 ex4; exact (((if_neg c1).trans ((if_pos c3).trans ((if_pos c5).trans rfl)))).symm) hK hP hD hS dX0_perform_227
  by_cases c8 : (p1 &&& (127 : Int32)) = 19
  · refine lv_lookup (tgt := 196) (off := 192) hx hb dX0_perform_4 (by decide) (by rw [c8]; decide) (by decide) ?_
    refine lv_aload_n hx hb dX0_perform_196 rfl (lv_at hl 0 rfl) ?_
    refine lv_iload_n hx hb dX0_perform_197 rfl (lv_at hl 1 rfl) ?_
    refine gMi (As := [.int p1]) (rest := []) (f := h_calculateWithNumber st p1) ⟨hx, hb, hml, hown, hts⟩ (ch_calculateWithNumber l dC dI cI h0 qme0 qre1 qco2 tN tB H.size st p1) (cwV 1 hts (gV mL_0_152 mI_0_calculateWithNumber mX_0_calculateWithNumber mN_0 mB_0_calculateWithNumber) rfl rfl rfl (by decide +kernel) ⟨Nat.le_of_ble_eq_true rfl, Nat.le_of_ble_eq_true rfl⟩) hK hP hD hS hZ rfl hl.1 rfl (Nat.le_of_ble_eq_true rfl) dX0_perform_198 ⟨Nat.zero_le _, Nat.zero_le _⟩ (fun z9 ez9 H locs hP hD hS => ?_)
    have hP : va_P (dC, dI) vwCl (gW cI h0 qme0 qre1 qco2 z9.2) H := hP
    have hD : va_D (gA h0 qme0 qre1 qco2 s.heap.size) (gW cI h0 qme0 qre1 qco2 z9.2) := hD
    exact gZret (v := z9.1) (u := z9.2) hx hb hr hlocks (jnb (by rw [ez9]; exact hb_calculateWithNumber st p1)) (by subst ez9; exact (((if_neg c1).trans ((if_neg c3).trans ((if_pos c8).trans rfl)))).symm) hK hP hD hS dX0_perform_201
  by_cases c10 : (p1 &&& (127 : Int32)) = 23
  · refine lv_lookup (tgt := 114) (off := 110) hx hb dX0_perform_4 (by decide) (by rw [c10]; decide) (by decide) ?_
    refine lv_aload_n hx hb dX0_perform_114 rfl (lv_at hl 0 rfl) ?_
    refine lv_iload_n hx hb dX0_perform_115 rfl (lv_at hl 1 rfl) ?_
    refine lv_aload_n hx hb dX0_perform_116 rfl (lv_at hl 0 rfl) ?_
    refine va_get (D := (dC, dI)) (ci := 0) (v := .int st.2.2.2.1) (C := "PagedHart") (T := TX0) (N := 6) hx hb hts mU0 hown hK hP 0 rfl rfl 3 (by decide) (hts _ mF_0_20) (fun _ h9 => h9) rfl dX0_perform_117 ?_
    refine lv_iload_n hx hb dX0_perform_120 rfl (lv_at hl 1 rfl) ?_
    refine W.callR (W.runS (As := [.int p1]) (rest := [.int st.2.2.2.1, .int p1, .ref h0]) ⟨hx, hb, hml, hown, hts⟩ (ch_uOf l p1) (cwS 1 hts (gS mL_0_119 mS_0_uOf mN_0 mB_0_uOf) rfl rfl rfl (by decide +kernel) ⟨Nat.le_of_ble_eq_true rfl, Nat.le_of_ble_eq_true rfl⟩) ⟨jblind, fun _ _ _ => ⟨rfl, trivial⟩⟩ rfl rfl hl.1 rfl (lv_room (Nat.le_of_ble_eq_true rfl)) dX0_perform_121 ⟨Nat.zero_le _, Nat.zero_le _⟩) ?_
    refine W.eq (g2 := F0 m 124 ls (.int (h_uOf p1) :: [.int st.2.2.2.1, .int p1, .ref h0])) rfl ?_
    refine lv_topi (fun x11 ex11 => ?_)
    refine lv_iadd hx hb dX0_perform_124 ?_
    refine gMi (As := [.int p1, .int (st.2.2.2.1 + x11)]) (rest := []) (f := h_goOnWith st p1 (st.2.2.2.1 + x11)) ⟨hx, hb, hml, hown, hts⟩ (ch_goOnWith l dC dI cI h0 qme0 qre1 qco2 tN tB H.size st p1 (st.2.2.2.1 + x11)) (cwV 2 hts (gV mL_0_122 mI_0_goOnWith mX_0_goOnWith mN_0 mB_0_goOnWith) rfl rfl rfl (by decide +kernel) ⟨Nat.le_of_ble_eq_true rfl, Nat.le_of_ble_eq_true rfl⟩) hK hP hD hS hZ rfl hl.1 rfl (Nat.le_of_ble_eq_true rfl) dX0_perform_125 ⟨Nat.zero_le _, Nat.zero_le _⟩ (fun z12 ez12 H locs hP hD hS => ?_)
    have hP : va_P (dC, dI) vwCl (gW cI h0 qme0 qre1 qco2 z12.2) H := hP
    have hD : va_D (gA h0 qme0 qre1 qco2 s.heap.size) (gW cI h0 qme0 qre1 qco2 z12.2) := hD
    exact gZret (v := z12.1) (u := z12.2) hx hb hr hlocks (jnb (by rw [ez12]; exact hb_goOnWith st p1 (st.2.2.2.1 + x11))) (by subst ez12 ex11; exact (((if_neg c1).trans ((if_neg c3).trans ((if_neg c8).trans ((if_pos c10).trans rfl))))).symm) hK hP hD hS dX0_perform_128
  by_cases c13 : (p1 &&& (127 : Int32)) = 35
  · refine lv_lookup (tgt := 190) (off := 186) hx hb dX0_perform_4 (by decide) (by rw [c13]; decide) (by decide) ?_
    refine lv_aload_n hx hb dX0_perform_190 rfl (lv_at hl 0 rfl) ?_
    refine lv_iload_n hx hb dX0_perform_191 rfl (lv_at hl 1 rfl) ?_
    refine gMi (As := [.int p1]) (rest := []) (f := h_store st p1) ⟨hx, hb, hml, hown, hts⟩ (ch_store l dC dI cI h0 qme0 qre1 qco2 tN tB H.size st p1) (cwV 1 hts (gV mL_0_149 mI_0_store mX_0_store mN_0 mB_0_store) rfl rfl rfl (by decide +kernel) ⟨Nat.le_of_ble_eq_true rfl, Nat.le_of_ble_eq_true rfl⟩) hK hP hD hS hZ rfl hl.1 rfl (Nat.le_of_ble_eq_true rfl) dX0_perform_192 ⟨Nat.zero_le _, Nat.zero_le _⟩ (fun z14 ez14 H locs hP hD hS => ?_)
    have hP : va_P (dC, dI) vwCl (gW cI h0 qme0 qre1 qco2 z14.2) H := hP
    have hD : va_D (gA h0 qme0 qre1 qco2 s.heap.size) (gW cI h0 qme0 qre1 qco2 z14.2) := hD
    exact gZret (v := z14.1) (u := z14.2) hx hb hr hlocks (jnb (by rw [ez14]; exact hb_store st p1)) (by subst ez14; exact (((if_neg c1).trans ((if_neg c3).trans ((if_neg c8).trans ((if_neg c10).trans ((if_pos c13).trans rfl)))))).symm) hK hP hD hS dX0_perform_195
  by_cases c15 : (p1 &&& (127 : Int32)) = 51
  · refine lv_lookup (tgt := 202) (off := 198) hx hb dX0_perform_4 (by decide) (by rw [c15]; decide) (by decide) ?_
    refine lv_aload_n hx hb dX0_perform_202 rfl (lv_at hl 0 rfl) ?_
    refine lv_iload_n hx hb dX0_perform_203 rfl (lv_at hl 1 rfl) ?_
    refine gMi (As := [.int p1]) (rest := []) (f := h_calculateWithRegister st p1) ⟨hx, hb, hml, hown, hts⟩ (ch_calculateWithRegister l dC dI cI h0 qme0 qre1 qco2 tN tB H.size st p1) (cwV 1 hts (gV mL_0_155 mI_0_calculateWithRegister mX_0_calculateWithRegister mN_0 mB_0_calculateWithRegister) rfl rfl rfl (by decide +kernel) ⟨Nat.le_of_ble_eq_true rfl, Nat.le_of_ble_eq_true rfl⟩) hK hP hD hS hZ rfl hl.1 rfl (Nat.le_of_ble_eq_true rfl) dX0_perform_204 ⟨Nat.zero_le _, Nat.zero_le _⟩ (fun z16 ez16 H locs hP hD hS => ?_)
    have hP : va_P (dC, dI) vwCl (gW cI h0 qme0 qre1 qco2 z16.2) H := hP
    have hD : va_D (gA h0 qme0 qre1 qco2 s.heap.size) (gW cI h0 qme0 qre1 qco2 z16.2) := hD
    exact gZret (v := z16.1) (u := z16.2) hx hb hr hlocks (jnb (by rw [ez16]; exact hb_calculateWithRegister st p1)) (by subst ez16; exact (((if_neg c1).trans ((if_neg c3).trans ((if_neg c8).trans ((if_neg c10).trans ((if_neg c13).trans ((if_pos c15).trans rfl))))))).symm) hK hP hD hS dX0_perform_207
  by_cases c17 : (p1 &&& (127 : Int32)) = 55
  · refine lv_lookup (tgt := 104) (off := 100) hx hb dX0_perform_4 (by decide) (by rw [c17]; decide) (by decide) ?_
    refine lv_aload_n hx hb dX0_perform_104 rfl (lv_at hl 0 rfl) ?_
    refine lv_iload_n hx hb dX0_perform_105 rfl (lv_at hl 1 rfl) ?_
    refine lv_iload_n hx hb dX0_perform_106 rfl (lv_at hl 1 rfl) ?_
    refine W.callR (W.runS (As := [.int p1]) (rest := [.int p1, .ref h0]) ⟨hx, hb, hml, hown, hts⟩ (ch_uOf l p1) (cwS 1 hts (gS mL_0_119 mS_0_uOf mN_0 mB_0_uOf) rfl rfl rfl (by decide +kernel) ⟨Nat.le_of_ble_eq_true rfl, Nat.le_of_ble_eq_true rfl⟩) ⟨jblind, fun _ _ _ => ⟨rfl, trivial⟩⟩ rfl rfl hl.1 rfl (lv_room (Nat.le_of_ble_eq_true rfl)) dX0_perform_107 ⟨Nat.zero_le _, Nat.zero_le _⟩) ?_
    refine W.eq (g2 := F0 m 110 ls (.int (h_uOf p1) :: [.int p1, .ref h0])) rfl ?_
    refine lv_topi (fun x18 ex18 => ?_)
    refine gMi (As := [.int p1, .int x18]) (rest := []) (f := h_goOnWith st p1 x18) ⟨hx, hb, hml, hown, hts⟩ (ch_goOnWith l dC dI cI h0 qme0 qre1 qco2 tN tB H.size st p1 x18) (cwV 2 hts (gV mL_0_122 mI_0_goOnWith mX_0_goOnWith mN_0 mB_0_goOnWith) rfl rfl rfl (by decide +kernel) ⟨Nat.le_of_ble_eq_true rfl, Nat.le_of_ble_eq_true rfl⟩) hK hP hD hS hZ rfl hl.1 rfl (Nat.le_of_ble_eq_true rfl) dX0_perform_110 ⟨Nat.zero_le _, Nat.zero_le _⟩ (fun z19 ez19 H locs hP hD hS => ?_)
    have hP : va_P (dC, dI) vwCl (gW cI h0 qme0 qre1 qco2 z19.2) H := hP
    have hD : va_D (gA h0 qme0 qre1 qco2 s.heap.size) (gW cI h0 qme0 qre1 qco2 z19.2) := hD
    exact gZret (v := z19.1) (u := z19.2) hx hb hr hlocks (jnb (by rw [ez19]; exact hb_goOnWith st p1 x18)) (by subst ez19 ex18; exact (((if_neg c1).trans ((if_neg c3).trans ((if_neg c8).trans ((if_neg c10).trans ((if_neg c13).trans ((if_neg c15).trans ((if_pos c17).trans rfl)))))))).symm) hK hP hD hS dX0_perform_113
  by_cases c20 : (p1 &&& (127 : Int32)) = 99
  · refine lv_lookup (tgt := 178) (off := 174) hx hb dX0_perform_4 (by decide) (by rw [c20]; decide) (by decide) ?_
    refine lv_aload_n hx hb dX0_perform_178 rfl (lv_at hl 0 rfl) ?_
    refine lv_iload_n hx hb dX0_perform_179 rfl (lv_at hl 1 rfl) ?_
    refine gMi (As := [.int p1]) (rest := []) (f := h_branch st p1) ⟨hx, hb, hml, hown, hts⟩ (ch_branch l dC dI cI h0 qme0 qre1 qco2 tN tB H.size st p1) (cwV 1 hts (gV mL_0_143 mI_0_branch mX_0_branch mN_0 mB_0_branch) rfl rfl rfl (by decide +kernel) ⟨Nat.le_of_ble_eq_true rfl, Nat.le_of_ble_eq_true rfl⟩) hK hP hD hS hZ rfl hl.1 rfl (Nat.le_of_ble_eq_true rfl) dX0_perform_180 ⟨Nat.zero_le _, Nat.zero_le _⟩ (fun z21 ez21 H locs hP hD hS => ?_)
    have hP : va_P (dC, dI) vwCl (gW cI h0 qme0 qre1 qco2 z21.2) H := hP
    have hD : va_D (gA h0 qme0 qre1 qco2 s.heap.size) (gW cI h0 qme0 qre1 qco2 z21.2) := hD
    exact gZret (v := z21.1) (u := z21.2) hx hb hr hlocks (jnb (by rw [ez21]; exact hb_branch st p1)) (by subst ez21; exact (((if_neg c1).trans ((if_neg c3).trans ((if_neg c8).trans ((if_neg c10).trans ((if_neg c13).trans ((if_neg c15).trans ((if_neg c17).trans ((if_pos c20).trans rfl))))))))).symm) hK hP hD hS dX0_perform_183
  by_cases c22 : (p1 &&& (127 : Int32)) = 103
  · refine lv_lookup (tgt := 144) (off := 140) hx hb dX0_perform_4 (by decide) (by rw [c22]; decide) (by decide) ?_
    refine lv_iload_n hx hb dX0_perform_144 rfl (lv_at hl 1 rfl) ?_
    refine W.callR (W.runS (As := [.int p1]) (rest := []) ⟨hx, hb, hml, hown, hts⟩ (ch_fOf l p1) (cwS 1 hts (gS mL_0_131 mS_0_fOf mN_0 mB_0_fOf) rfl rfl rfl (by decide +kernel) ⟨Nat.le_of_ble_eq_true rfl, Nat.le_of_ble_eq_true rfl⟩) ⟨jblind, fun _ _ _ => ⟨rfl, trivial⟩⟩ rfl rfl hl.1 rfl (lv_room (Nat.le_of_ble_eq_true rfl)) dX0_perform_145 ⟨Nat.zero_le _, Nat.zero_le _⟩) ?_
    refine W.eq (g2 := F0 m 148 ls (.int (h_fOf p1) :: [])) rfl ?_
    refine lv_topi (fun x23 ex23 => ?_)
    refine lv_if_ne (tgt := 172) hx hb dX0_perform_148 (by decide) (fun c24 => ?_) (fun c24 => ?_)
    · refine lv_aload_n hx hb dX0_perform_172 rfl (lv_at hl 0 rfl) ?_
      refine lv_iload_n hx hb dX0_perform_173 rfl (lv_at hl 1 rfl) ?_
      refine gMi (As := [.int p1]) (rest := []) (f := h_refuse st p1) ⟨hx, hb, hml, hown, hts⟩ (ch_refuse l dC dI cI h0 qme0 qre1 qco2 tN tB H.size st p1) (cwV 1 hts (gV mL_0_140 mI_0_refuse mX_0_refuse mN_0 mB_0_refuse) rfl rfl rfl (by decide +kernel) ⟨Nat.le_of_ble_eq_true rfl, Nat.le_of_ble_eq_true rfl⟩) hK hP hD hS hZ rfl hl.1 rfl (Nat.le_of_ble_eq_true rfl) dX0_perform_174 ⟨Nat.zero_le _, Nat.zero_le _⟩ (fun z25 ez25 H locs hP hD hS => ?_)
      have hP : va_P (dC, dI) vwCl (gW cI h0 qme0 qre1 qco2 z25.2) H := hP
      have hD : va_D (gA h0 qme0 qre1 qco2 s.heap.size) (gW cI h0 qme0 qre1 qco2 z25.2) := hD
      exact gZret (v := z25.1) (u := z25.2) hx hb hr hlocks (jnb (by rw [ez25]; exact hb_refuse st p1)) (by subst ez25 ex23; exact (((if_neg c1).trans ((if_neg c3).trans ((if_neg c8).trans ((if_neg c10).trans ((if_neg c13).trans ((if_neg c15).trans ((if_neg c17).trans ((if_neg c20).trans ((if_pos c22).trans ((if_neg c24).trans rfl))))))))))).symm) hK hP hD hS dX0_perform_177
    · refine lv_aload_n hx hb dX0_perform_151 rfl (lv_at hl 0 rfl) ?_
      refine lv_iload_n hx hb dX0_perform_152 rfl (lv_at hl 1 rfl) ?_
      refine lv_aload_n hx hb dX0_perform_153 rfl (lv_at hl 0 rfl) ?_
      refine lv_iload_n hx hb dX0_perform_154 rfl (lv_at hl 1 rfl) ?_
      refine gR (As := [.int p1]) (rest := [.int p1, .ref h0]) (f := h_aOf st p1) ⟨hx, hb, hml, hown, hts⟩ (ch_aOf l dC dI cI h0 qme0 qre1 qco2 tN tB H.size st p1) (cwV 1 hts (gV mL_0_134 mI_0_aOf mX_0_aOf mN_0 mB_0_aOf) rfl rfl rfl (by decide +kernel) ⟨Nat.le_of_ble_eq_true rfl, Nat.le_of_ble_eq_true rfl⟩) hK hP hD hS hZ rfl hl.1 rfl (Nat.le_of_ble_eq_true rfl) dX0_perform_155 ⟨Nat.zero_le _, Nat.zero_le _⟩ ?_
      refine lv_topi (fun x26 ex26 => ?_)
      refine lv_iload_n hx hb dX0_perform_158 rfl (lv_at hl 1 rfl) ?_
      refine W.callR (W.runS (As := [.int p1]) (rest := [.int x26, .int p1, .ref h0]) ⟨hx, hb, hml, hown, hts⟩ (ch_iOf l p1) (cwS 1 hts (gS mL_0_137 mS_0_iOf mN_0 mB_0_iOf) rfl rfl rfl (by decide +kernel) ⟨Nat.le_of_ble_eq_true rfl, Nat.le_of_ble_eq_true rfl⟩) ⟨jblind, fun _ _ _ => ⟨rfl, trivial⟩⟩ rfl rfl hl.1 rfl (lv_room (Nat.le_of_ble_eq_true rfl)) dX0_perform_159 ⟨Nat.zero_le _, Nat.zero_le _⟩) ?_
      refine W.eq (g2 := F0 m 162 ls (.int (h_iOf p1) :: [.int x26, .int p1, .ref h0])) rfl ?_
      refine lv_topi (fun x27 ex27 => ?_)
      refine lv_iadd hx hb dX0_perform_162 ?_
      refine lv_bipush (v := (-2)) hx hb dX0_perform_163 (by decide) ?_
      refine lv_iand hx hb dX0_perform_165 ?_
      refine gMi (As := [.int p1, .int ((x26 + x27) &&& ((-2) : Int32))]) (rest := []) (f := h_jump st p1 ((x26 + x27) &&& ((-2) : Int32))) ⟨hx, hb, hml, hown, hts⟩ (ch_jump l dC dI cI h0 qme0 qre1 qco2 tN tB H.size st p1 ((x26 + x27) &&& ((-2) : Int32))) (cwV 2 hts (gV mL_0_128 mI_0_jump mX_0_jump mN_0 mB_0_jump) rfl rfl rfl (by decide +kernel) ⟨Nat.le_of_ble_eq_true rfl, Nat.le_of_ble_eq_true rfl⟩) hK hP hD hS hZ rfl hl.1 rfl (Nat.le_of_ble_eq_true rfl) dX0_perform_166 ⟨Nat.zero_le _, Nat.zero_le _⟩ (fun z28 ez28 H locs hP hD hS => ?_)
      have hP : va_P (dC, dI) vwCl (gW cI h0 qme0 qre1 qco2 z28.2) H := hP
      have hD : va_D (gA h0 qme0 qre1 qco2 s.heap.size) (gW cI h0 qme0 qre1 qco2 z28.2) := hD
      refine lv_goto (tgt := 177) hx hb dX0_perform_169 (by decide) ?_
      exact gZret (v := z28.1) (u := z28.2) hx hb hr hlocks (jnb (by rw [ez28]; exact hb_jump st p1 ((x26 + x27) &&& ((-2) : Int32)))) (by subst ez28 ex27 ex26 ex23; exact (((if_neg c1).trans ((if_neg c3).trans ((if_neg c8).trans ((if_neg c10).trans ((if_neg c13).trans ((if_neg c15).trans ((if_neg c17).trans ((if_neg c20).trans ((if_pos c22).trans ((if_pos c24).trans rfl))))))))))).symm) hK hP hD hS dX0_perform_177
  by_cases c29 : (p1 &&& (127 : Int32)) = 111
  · refine lv_lookup (tgt := 129) (off := 125) hx hb dX0_perform_4 (by decide) (by rw [c29]; decide) (by decide) ?_
    refine lv_aload_n hx hb dX0_perform_129 rfl (lv_at hl 0 rfl) ?_
    refine lv_iload_n hx hb dX0_perform_130 rfl (lv_at hl 1 rfl) ?_
    refine lv_aload_n hx hb dX0_perform_131 rfl (lv_at hl 0 rfl) ?_
    refine va_get (D := (dC, dI)) (ci := 0) (v := .int st.2.2.2.1) (C := "PagedHart") (T := TX0) (N := 6) hx hb hts mU0 hown hK hP 0 rfl rfl 3 (by decide) (hts _ mF_0_20) (fun _ h9 => h9) rfl dX0_perform_132 ?_
    refine lv_iload_n hx hb dX0_perform_135 rfl (lv_at hl 1 rfl) ?_
    refine W.callR (W.runS (As := [.int p1]) (rest := [.int st.2.2.2.1, .int p1, .ref h0]) ⟨hx, hb, hml, hown, hts⟩ (ch_jumpDistance l p1) (cwS 1 hts (gS mL_0_125 mS_0_jumpDistance mN_0 mB_0_jumpDistance) rfl rfl rfl (by decide +kernel) ⟨Nat.le_of_ble_eq_true rfl, Nat.le_of_ble_eq_true rfl⟩) ⟨jblind, fun _ _ _ => ⟨rfl, trivial⟩⟩ rfl rfl hl.1 rfl (lv_room (Nat.le_of_ble_eq_true rfl)) dX0_perform_136 ⟨Nat.zero_le _, Nat.zero_le _⟩) ?_
    refine W.eq (g2 := F0 m 139 ls (.int (h_jumpDistance p1) :: [.int st.2.2.2.1, .int p1, .ref h0])) rfl ?_
    refine lv_topi (fun x30 ex30 => ?_)
    refine lv_iadd hx hb dX0_perform_139 ?_
    refine gMi (As := [.int p1, .int (st.2.2.2.1 + x30)]) (rest := []) (f := h_jump st p1 (st.2.2.2.1 + x30)) ⟨hx, hb, hml, hown, hts⟩ (ch_jump l dC dI cI h0 qme0 qre1 qco2 tN tB H.size st p1 (st.2.2.2.1 + x30)) (cwV 2 hts (gV mL_0_128 mI_0_jump mX_0_jump mN_0 mB_0_jump) rfl rfl rfl (by decide +kernel) ⟨Nat.le_of_ble_eq_true rfl, Nat.le_of_ble_eq_true rfl⟩) hK hP hD hS hZ rfl hl.1 rfl (Nat.le_of_ble_eq_true rfl) dX0_perform_140 ⟨Nat.zero_le _, Nat.zero_le _⟩ (fun z31 ez31 H locs hP hD hS => ?_)
    have hP : va_P (dC, dI) vwCl (gW cI h0 qme0 qre1 qco2 z31.2) H := hP
    have hD : va_D (gA h0 qme0 qre1 qco2 s.heap.size) (gW cI h0 qme0 qre1 qco2 z31.2) := hD
    exact gZret (v := z31.1) (u := z31.2) hx hb hr hlocks (jnb (by rw [ez31]; exact hb_jump st p1 (st.2.2.2.1 + x30))) (by subst ez31 ex30; exact (((if_neg c1).trans ((if_neg c3).trans ((if_neg c8).trans ((if_neg c10).trans ((if_neg c13).trans ((if_neg c15).trans ((if_neg c17).trans ((if_neg c20).trans ((if_neg c22).trans ((if_pos c29).trans rfl))))))))))).symm) hK hP hD hS dX0_perform_143
  by_cases c32 : (p1 &&& (127 : Int32)) = 115
  · refine lv_lookup (tgt := 228) (off := 224) hx hb dX0_perform_4 (by decide) (by rw [c32]; decide) (by decide) ?_
    refine lv_aload_n hx hb dX0_perform_228 rfl (lv_at hl 0 rfl) ?_
    refine lv_iload_n hx hb dX0_perform_229 rfl (lv_at hl 1 rfl) ?_
    refine gMi (As := [.int p1]) (rest := []) (f := h_performSystem st p1) ⟨hx, hb, hml, hown, hts⟩ (ch_performSystem l dC dI cI h0 qme0 qre1 qco2 tN tB H.size st p1) (cwV 1 hts (gV mL_0_158 mI_0_performSystem mX_0_performSystem mN_0 mB_0_performSystem) rfl rfl rfl (by decide +kernel) ⟨Nat.le_of_ble_eq_true rfl, Nat.le_of_ble_eq_true rfl⟩) hK hP hD hS hZ rfl hl.1 rfl (Nat.le_of_ble_eq_true rfl) dX0_perform_230 ⟨Nat.zero_le _, Nat.zero_le _⟩ (fun z33 ez33 H locs hP hD hS => ?_)
    have hP : va_P (dC, dI) vwCl (gW cI h0 qme0 qre1 qco2 z33.2) H := hP
    have hD : va_D (gA h0 qme0 qre1 qco2 s.heap.size) (gW cI h0 qme0 qre1 qco2 z33.2) := hD
    exact gZret (v := z33.1) (u := z33.2) hx hb hr hlocks (jnb (by rw [ez33]; exact hb_performSystem st p1)) (by subst ez33; exact (((if_neg c1).trans ((if_neg c3).trans ((if_neg c8).trans ((if_neg c10).trans ((if_neg c13).trans ((if_neg c15).trans ((if_neg c17).trans ((if_neg c20).trans ((if_neg c22).trans ((if_neg c29).trans ((if_pos c32).trans rfl)))))))))))).symm) hK hP hD hS dX0_perform_233
  refine lv_lookup (tgt := 234) (off := 230) hx hb dX0_perform_4 (by decide) ((lv_osw (k := 3) c1 (by decide)).trans ((lv_osw (k := 15) c3 (by decide)).trans ((lv_osw (k := 19) c8 (by decide)).trans ((lv_osw (k := 23) c10 (by decide)).trans ((lv_osw (k := 35) c13 (by decide)).trans ((lv_osw (k := 51) c15 (by decide)).trans ((lv_osw (k := 55) c17 (by decide)).trans ((lv_osw (k := 99) c20 (by decide)).trans ((lv_osw (k := 103) c22 (by decide)).trans ((lv_osw (k := 111) c29 (by decide)).trans ((lv_osw (k := 115) c32 (by decide)).trans rfl))))))))))) (by decide) ?_
  refine lv_aload_n hx hb dX0_perform_234 rfl (lv_at hl 0 rfl) ?_
  refine lv_iload_n hx hb dX0_perform_235 rfl (lv_at hl 1 rfl) ?_
  refine gMi (As := [.int p1]) (rest := []) (f := h_refuse st p1) ⟨hx, hb, hml, hown, hts⟩ (ch_refuse l dC dI cI h0 qme0 qre1 qco2 tN tB H.size st p1) (cwV 1 hts (gV mL_0_140 mI_0_refuse mX_0_refuse mN_0 mB_0_refuse) rfl rfl rfl (by decide +kernel) ⟨Nat.le_of_ble_eq_true rfl, Nat.le_of_ble_eq_true rfl⟩) hK hP hD hS hZ rfl hl.1 rfl (Nat.le_of_ble_eq_true rfl) dX0_perform_236 ⟨Nat.zero_le _, Nat.zero_le _⟩ (fun z34 ez34 H locs hP hD hS => ?_)
  have hP : va_P (dC, dI) vwCl (gW cI h0 qme0 qre1 qco2 z34.2) H := hP
  have hD : va_D (gA h0 qme0 qre1 qco2 s.heap.size) (gW cI h0 qme0 qre1 qco2 z34.2) := hD
  exact gZret (v := z34.1) (u := z34.2) hx hb hr hlocks (jnb (by rw [ez34]; exact hb_refuse st p1)) (by subst ez34; exact (((if_neg c1).trans ((if_neg c3).trans ((if_neg c8).trans ((if_neg c10).trans ((if_neg c13).trans ((if_neg c15).trans ((if_neg c17).trans ((if_neg c20).trans ((if_neg c22).trans ((if_neg c29).trans ((if_neg c32).trans rfl)))))))))))).symm) hK hP hD hS dX0_perform_239
theorem hb_perform (st : HS) (p1 : Int32) : (h_perform st p1).1 = 0 ∨ (h_perform st p1).1 = 1 := by
  unfold h_perform
  try dsimp only
  (repeat' split) <;> first | with_reducible exact hb_trap _ _ _ | with_reducible exact hb_refuse _ _ | with_reducible exact hb_goOn _ | with_reducible exact hb_goOnWith _ _ _ | with_reducible exact hb_jump _ _ _ | with_reducible exact hb_branch _ _ | with_reducible exact hb_load _ _ | with_reducible exact hb_store _ _ | with_reducible exact hb_calculateWithNumber _ _ | with_reducible exact hb_calculateWithRegister _ _ | with_reducible exact hb_call _ | with_reducible exact hb_returnFromTrap _ | with_reducible exact hb_changeControl _ _ | with_reducible exact hb_performSystem _ _ | exact Or.inl rfl | exact Or.inr rfl

def h_step (st : HS)  : HS :=
  if st.2.2.2.2.1 = 0 then
    if (st.2.2.1 (8 : Int32).toNatClampNeg) = 0 then
      let z23 : Int32 × HS := h_trap st (24 : Int32) (0 : Int32)
      z23.2
    else
      if (st.2.2.1 (7 : Int32).toNatClampNeg) = 0 then
        let z22 : Int32 × HS := h_trap st ((-2147483643) : Int32) (0 : Int32)
        z22.2
      else
        let x14 : Int32 := h_locateAligned st st.2.2.2.1 (0 : Int32) (4 : Int32)
        if 0 ≤ x14 then
          let z16 : Int32 × HS := h_perform st (st.1 (jush x14 (2 : Int32)).toNatClampNeg)
          if z16.1 = 0 then
            z16.2
          else
            let z19 : HS := h_countDown z16.2 (8 : Int32)
            let z20 : HS := h_countDown z19 (7 : Int32)
            z20
        else
          let z21 : Int32 × HS := h_trap st (((-1) : Int32) - x14) st.2.2.2.1
          z21.2
  else
    let x4 : Int32 := h_locateAligned st st.2.2.2.1 (0 : Int32) (4 : Int32)
    if 0 ≤ x4 then
      let z6 : Int32 × HS := h_perform st (st.1 (jush x4 (2 : Int32)).toNatClampNeg)
      if z6.1 = 0 then
        z6.2
      else
        z6.2
    else
      let z9 : Int32 × HS := h_trap st (((-1) : Int32) - x4) st.2.2.2.1
      z9.2
set_option maxHeartbeats 4000000 in
set_option maxRecDepth 100000 in
theorem ch_step (l : Launch) (dC : Nat → ClassId) (dI : Nat → Nat → Nat) (cI h0 qme0 qre1 qco2 tN tB : Nat) (sz : Nat) (st : HS)   : Met l yX0_step (.code yX0_step cX0_step 3 none :: gBIG) ({ frames := 5, cells := 0, slots := 0, locals := 122 }) (va_Pc [.ref h0] (gPre dC dI cI h0 qme0 qre1 qco2 tN tB sz st)) (va_Qv (fun v => v = h_step st) (gB dC dI cI h0 qme0 qre1 qco2 (gA h0 qme0 qre1 qco2 sz)) (gA h0 qme0 qre1 qco2 sz)) 0 0 (gA h0 qme0 qre1 qco2 sz) := by
  refine Met.ofW (cc := cX0_step) (maxL := 3) (ret := none) (by decide) rfl ?_
  intro p e s m args below meth c s₁ B hml hv
  obtain ⟨rfl, hsz, hP, hK, hD0, hZ⟩ := hv
  have hx := B.exec
  have hb := B.bytes
  have hr := B.returns
  have hts : ∀ w ∈ gBIG, w.before _ s = true := fun w h => atoms_spec (ws := (.code yX0_step cX0_step 3 none :: gBIG)) B.pre w (List.mem_cons_of_mem _ h)
  have hown : s.vm.findClass "PagedHart" = some m.cls := findClass_of_methodNamed B.named
  have hlocks := B.notSynchronized
  subst hsz
  have hD : va_D (gA h0 qme0 qre1 qco2 s.heap.size) (gW cI h0 qme0 qre1 qco2 st) := gD hD0
  have hS : va_S (gA h0 qme0 qre1 qco2 s.heap.size) s.heap s.heap [] := va_S.rf
  have hP : va_P (dC, dI) vwCl (gW cI h0 qme0 qre1 qco2 st) s.heap := hP
  have hl := lv_entry ([.ref h0]) (n := 3) (Nat.le_of_ble_eq_true rfl)
  rw [lg_entry_eq]
  generalize (lg_sl ([.ref h0]) ++ List.replicate (3 - (lg_sl ([.ref h0])).length) Slot.unset).toArray = ls at hl ⊢
  refine jgo (P := fun H locs => va_P (dC, dI) vwCl (gW cI h0 qme0 qre1 qco2 st) H ∧ va_S (gA h0 qme0 qre1 qco2 s.heap.size) s.heap H locs) ⟨hP, hS⟩ (fun H locs hPS => ?_)
  obtain ⟨hP, hS⟩ := hPS
  have hl : lv_has ls 3 [(0, .ref h0)] := hl
  refine lv_aload_n hx hb dX0_step_0 rfl (lv_at hl 0 rfl) ?_
  refine va_get (D := (dC, dI)) (ci := 0) (v := .int st.2.2.2.2.1) (C := "PagedHart") (T := TX0) (N := 6) hx hb hts mU0 hown hK hP 0 rfl rfl 4 (by decide) (hts _ mF_0_24) (fun _ h9 => h9) rfl dX0_step_1 ?_
  refine lv_if_ne (tgt := 11) hx hb dX0_step_4 (by decide) (fun c1 => ?_) (fun c1 => ?_)
  · refine lv_iconst (v := 0) hx hb dX0_step_11 (by decide) ?_
    refine lv_istore_n (lv' := [(1, .int 0), (0, .ref h0)]) hx hb dX0_step_12 rfl hl (by decide) rfl (fun ls hl => ?_)
    refine lv_iload_n hx hb dX0_step_13 rfl (lv_at hl 0 rfl) ?_
    refine lv_if_eq (tgt := 36) hx hb dX0_step_14 (by decide) (fun c2 => ?_) (fun c2 => ?_)
    · refine lv_iload_n hx hb dX0_step_36 rfl (lv_at hl 0 rfl) ?_
      refine lv_if_eq (tgt := 59) hx hb dX0_step_37 (by decide) (fun c3 => ?_) (fun c3 => ?_)
      · refine lv_aload_n hx hb dX0_step_59 rfl (lv_at hl 1 rfl) ?_
        refine lv_aload_n hx hb dX0_step_60 rfl (lv_at hl 1 rfl) ?_
        refine va_get (D := (dC, dI)) (ci := 0) (v := .int st.2.2.2.1) (C := "PagedHart") (T := TX0) (N := 6) hx hb hts mU0 hown hK hP 0 rfl rfl 3 (by decide) (hts _ mF_0_20) (fun _ h9 => h9) rfl dX0_step_61 ?_
        refine lv_iconst (v := 0) hx hb dX0_step_64 (by decide) ?_
        refine lv_iconst (v := 4) hx hb dX0_step_65 (by decide) ?_
        refine gR (As := [.int st.2.2.2.1, .int 0, .int 4]) (rest := []) (f := h_locateAligned st st.2.2.2.1 (0 : Int32) (4 : Int32)) ⟨hx, hb, hml, hown, hts⟩ (ch_locateAligned l dC dI cI h0 qme0 qre1 qco2 tN tB H.size st st.2.2.2.1 (0 : Int32) (4 : Int32)) (cwV 3 hts (gV mL_0_100 mI_0_locateAligned mX_0_locateAligned mN_0 mB_0_locateAligned) rfl rfl rfl (by decide +kernel) ⟨Nat.le_of_ble_eq_true rfl, Nat.le_of_ble_eq_true rfl⟩) hK hP hD hS hZ rfl hl.1 rfl (Nat.le_of_ble_eq_true rfl) dX0_step_66 ⟨Nat.zero_le _, Nat.zero_le _⟩ ?_
        refine lv_topi (fun x4 ex4 => ?_)
        refine lv_istore_n (lv' := [(2, .int x4), (1, .int 0), (0, .ref h0)]) hx hb dX0_step_69 rfl hl (by decide) rfl (fun ls hl => ?_)
        refine lv_iload_n hx hb dX0_step_70 rfl (lv_at hl 0 rfl) ?_
        refine lv_if_ge (tgt := 87) hx hb dX0_step_71 (by decide) (fun c5 => ?_) (fun c5 => ?_)
        · refine lv_aload_n hx hb dX0_step_87 rfl (lv_at hl 2 rfl) ?_
          refine lv_aload_n hx hb dX0_step_88 rfl (lv_at hl 2 rfl) ?_
          refine va_get (D := (dC, dI)) (ci := 0) (v := .ref qme0) (C := "PagedHart") (T := TX0) (N := 6) hx hb hts mU0 hown hK hP 0 rfl rfl 0 (by decide) (hts _ mF_0_10) (fun _ h9 => h9) rfl dX0_step_89 ?_
          refine lv_iload_n hx hb dX0_step_92 rfl (lv_at hl 0 rfl) ?_
          refine lv_iconst (v := 2) hx hb dX0_step_93 (by decide) ?_
          refine lv_iushr (v := jush x4 (2 : Int32)) hx hb dX0_step_94 rfl ?_
          refine va_iald (D := (dC, dI)) hx hb hK hP 1 0 rfl rfl (by rw [ex4]; exact h_in2 (by rw [← ex4]; exact c5)) dX0_step_95 ?_
          refine gMi (As := [.int (st.1 (jush x4 (2 : Int32)).toNatClampNeg)]) (rest := []) (f := h_perform st (st.1 (jush x4 (2 : Int32)).toNatClampNeg)) ⟨hx, hb, hml, hown, hts⟩ (ch_perform l dC dI cI h0 qme0 qre1 qco2 tN tB H.size st (st.1 (jush x4 (2 : Int32)).toNatClampNeg)) (cwV 1 hts (gV mL_0_104 mI_0_perform mX_0_perform mN_0 mB_0_perform) rfl rfl rfl (by decide +kernel) ⟨Nat.le_of_ble_eq_true rfl, Nat.le_of_ble_eq_true rfl⟩) hK hP hD hS hZ rfl hl.1 rfl (Nat.le_of_ble_eq_true rfl) dX0_step_96 ⟨Nat.zero_le _, Nat.zero_le _⟩ (fun z6 ez6 H locs hP hD hS => ?_)
          have hP : va_P (dC, dI) vwCl (gW cI h0 qme0 qre1 qco2 z6.2) H := hP
          have hD : va_D (gA h0 qme0 qre1 qco2 s.heap.size) (gW cI h0 qme0 qre1 qco2 z6.2) := hD
          refine lv_if_eq (tgt := 118) hx hb dX0_step_99 (by decide) (fun c7 => ?_) (fun c7 => ?_)
          · exact gVret (u := z6.2) hx hb hr hlocks (by subst ez6 ex4; exact (((if_neg c1).trans ((if_pos c5).trans ((if_pos c7).trans rfl)))).symm) hK hP hD hS dX0_step_118
          · refine lv_iload_n hx hb dX0_step_102 rfl (lv_at hl 1 rfl) ?_
            refine lv_if_eq (tgt := 118) hx hb dX0_step_103 (by decide) (fun c8 => ?_) (fun c8 => ?_)
            · exact gVret (u := z6.2) hx hb hr hlocks (by subst ez6 ex4; exact (((if_neg c1).trans ((if_pos c5).trans ((if_neg c7).trans rfl)))).symm) hK hP hD hS dX0_step_118
            · exact (c8 (by decide)).elim
        · refine lv_aload_n hx hb dX0_step_74 rfl (lv_at hl 2 rfl) ?_
          refine lv_iconst (v := (-1)) hx hb dX0_step_75 (by decide) ?_
          refine lv_iload_n hx hb dX0_step_76 rfl (lv_at hl 0 rfl) ?_
          refine lv_isub hx hb dX0_step_77 ?_
          refine lv_aload_n hx hb dX0_step_78 rfl (lv_at hl 2 rfl) ?_
          refine va_get (D := (dC, dI)) (ci := 0) (v := .int st.2.2.2.1) (C := "PagedHart") (T := TX0) (N := 6) hx hb hts mU0 hown hK hP 0 rfl rfl 3 (by decide) (hts _ mF_0_20) (fun _ h9 => h9) rfl dX0_step_79 ?_
          refine gMi (As := [.int (((-1) : Int32) - x4), .int st.2.2.2.1]) (rest := []) (f := h_trap st (((-1) : Int32) - x4) st.2.2.2.1) ⟨hx, hb, hml, hown, hts⟩ (ch_trap l dC dI cI h0 qme0 qre1 qco2 tN tB H.size st (((-1) : Int32) - x4) st.2.2.2.1) (cwV 2 hts (gV mL_0_96 mI_0_trap mX_0_trap mN_0 mB_0_trap) rfl rfl rfl (by decide +kernel) ⟨Nat.le_of_ble_eq_true rfl, Nat.le_of_ble_eq_true rfl⟩) hK hP hD hS hZ rfl hl.1 rfl (Nat.le_of_ble_eq_true rfl) dX0_step_82 ⟨Nat.zero_le _, Nat.zero_le _⟩ (fun z9 ez9 H locs hP hD hS => ?_)
          have hP : va_P (dC, dI) vwCl (gW cI h0 qme0 qre1 qco2 z9.2) H := hP
          have hD : va_D (gA h0 qme0 qre1 qco2 s.heap.size) (gW cI h0 qme0 qre1 qco2 z9.2) := hD
          refine lv_pop hx hb dX0_step_85 rfl ?_
          exact gVret (u := z9.2) hx hb hr hlocks (by subst ez9 ex4; exact (((if_neg c1).trans ((if_neg c5).trans rfl))).symm) hK hP hD hS dX0_step_86
      · exact (c3 (by decide)).elim
    · exact (c2 (by decide)).elim
  · refine lv_iconst (v := 1) hx hb dX0_step_7 (by decide) ?_
    refine lv_goto (tgt := 12) hx hb dX0_step_8 (by decide) ?_
    refine lv_istore_n (lv' := [(1, .int 1), (0, .ref h0)]) hx hb dX0_step_12 rfl hl (by decide) rfl (fun ls hl => ?_)
    refine lv_iload_n hx hb dX0_step_13 rfl (lv_at hl 0 rfl) ?_
    refine lv_if_eq (tgt := 36) hx hb dX0_step_14 (by decide) (fun c10 => ?_) (fun c10 => ?_)
    · exact absurd c10 (by decide)
    · refine lv_aload_n hx hb dX0_step_17 rfl (lv_at hl 1 rfl) ?_
      refine va_get (D := (dC, dI)) (ci := 0) (v := .ref qco2) (C := "PagedHart") (T := TX0) (N := 6) hx hb hts mU0 hown hK hP 0 rfl rfl 2 (by decide) (hts _ mF_0_17) (fun _ h9 => h9) rfl dX0_step_18 ?_
      refine lv_bipush (v := 8) hx hb dX0_step_21 (by decide) ?_
      refine va_iald (D := (dC, dI)) hx hb hK hP 3 0 rfl rfl (jin (by decide)) dX0_step_23 ?_
      refine lv_if_ne (tgt := 36) hx hb dX0_step_24 (by decide) (fun c11 => ?_) (fun c11 => ?_)
      · refine lv_iload_n hx hb dX0_step_36 rfl (lv_at hl 0 rfl) ?_
        refine lv_if_eq (tgt := 59) hx hb dX0_step_37 (by decide) (fun c12 => ?_) (fun c12 => ?_)
        · exact absurd c12 (by decide)
        · refine lv_aload_n hx hb dX0_step_40 rfl (lv_at hl 1 rfl) ?_
          refine va_get (D := (dC, dI)) (ci := 0) (v := .ref qco2) (C := "PagedHart") (T := TX0) (N := 6) hx hb hts mU0 hown hK hP 0 rfl rfl 2 (by decide) (hts _ mF_0_17) (fun _ h9 => h9) rfl dX0_step_41 ?_
          refine lv_bipush (v := 7) hx hb dX0_step_44 (by decide) ?_
          refine va_iald (D := (dC, dI)) hx hb hK hP 3 0 rfl rfl (jin (by decide)) dX0_step_46 ?_
          refine lv_if_ne (tgt := 59) hx hb dX0_step_47 (by decide) (fun c13 => ?_) (fun c13 => ?_)
          · refine lv_aload_n hx hb dX0_step_59 rfl (lv_at hl 1 rfl) ?_
            refine lv_aload_n hx hb dX0_step_60 rfl (lv_at hl 1 rfl) ?_
            refine va_get (D := (dC, dI)) (ci := 0) (v := .int st.2.2.2.1) (C := "PagedHart") (T := TX0) (N := 6) hx hb hts mU0 hown hK hP 0 rfl rfl 3 (by decide) (hts _ mF_0_20) (fun _ h9 => h9) rfl dX0_step_61 ?_
            refine lv_iconst (v := 0) hx hb dX0_step_64 (by decide) ?_
            refine lv_iconst (v := 4) hx hb dX0_step_65 (by decide) ?_
            refine gR (As := [.int st.2.2.2.1, .int 0, .int 4]) (rest := []) (f := h_locateAligned st st.2.2.2.1 (0 : Int32) (4 : Int32)) ⟨hx, hb, hml, hown, hts⟩ (ch_locateAligned l dC dI cI h0 qme0 qre1 qco2 tN tB H.size st st.2.2.2.1 (0 : Int32) (4 : Int32)) (cwV 3 hts (gV mL_0_100 mI_0_locateAligned mX_0_locateAligned mN_0 mB_0_locateAligned) rfl rfl rfl (by decide +kernel) ⟨Nat.le_of_ble_eq_true rfl, Nat.le_of_ble_eq_true rfl⟩) hK hP hD hS hZ rfl hl.1 rfl (Nat.le_of_ble_eq_true rfl) dX0_step_66 ⟨Nat.zero_le _, Nat.zero_le _⟩ ?_
            refine lv_topi (fun x14 ex14 => ?_)
            refine lv_istore_n (lv' := [(2, .int x14), (1, .int 1), (0, .ref h0)]) hx hb dX0_step_69 rfl hl (by decide) rfl (fun ls hl => ?_)
            refine lv_iload_n hx hb dX0_step_70 rfl (lv_at hl 0 rfl) ?_
            refine lv_if_ge (tgt := 87) hx hb dX0_step_71 (by decide) (fun c15 => ?_) (fun c15 => ?_)
            · refine lv_aload_n hx hb dX0_step_87 rfl (lv_at hl 2 rfl) ?_
              refine lv_aload_n hx hb dX0_step_88 rfl (lv_at hl 2 rfl) ?_
              refine va_get (D := (dC, dI)) (ci := 0) (v := .ref qme0) (C := "PagedHart") (T := TX0) (N := 6) hx hb hts mU0 hown hK hP 0 rfl rfl 0 (by decide) (hts _ mF_0_10) (fun _ h9 => h9) rfl dX0_step_89 ?_
              refine lv_iload_n hx hb dX0_step_92 rfl (lv_at hl 0 rfl) ?_
              refine lv_iconst (v := 2) hx hb dX0_step_93 (by decide) ?_
              refine lv_iushr (v := jush x14 (2 : Int32)) hx hb dX0_step_94 rfl ?_
              refine va_iald (D := (dC, dI)) hx hb hK hP 1 0 rfl rfl (by rw [ex14]; exact h_in2 (by rw [← ex14]; exact c15)) dX0_step_95 ?_
              refine gMi (As := [.int (st.1 (jush x14 (2 : Int32)).toNatClampNeg)]) (rest := []) (f := h_perform st (st.1 (jush x14 (2 : Int32)).toNatClampNeg)) ⟨hx, hb, hml, hown, hts⟩ (ch_perform l dC dI cI h0 qme0 qre1 qco2 tN tB H.size st (st.1 (jush x14 (2 : Int32)).toNatClampNeg)) (cwV 1 hts (gV mL_0_104 mI_0_perform mX_0_perform mN_0 mB_0_perform) rfl rfl rfl (by decide +kernel) ⟨Nat.le_of_ble_eq_true rfl, Nat.le_of_ble_eq_true rfl⟩) hK hP hD hS hZ rfl hl.1 rfl (Nat.le_of_ble_eq_true rfl) dX0_step_96 ⟨Nat.zero_le _, Nat.zero_le _⟩ (fun z16 ez16 H locs hP hD hS => ?_)
              have hP : va_P (dC, dI) vwCl (gW cI h0 qme0 qre1 qco2 z16.2) H := hP
              have hD : va_D (gA h0 qme0 qre1 qco2 s.heap.size) (gW cI h0 qme0 qre1 qco2 z16.2) := hD
              refine lv_if_eq (tgt := 118) hx hb dX0_step_99 (by decide) (fun c17 => ?_) (fun c17 => ?_)
              · exact gVret (u := z16.2) hx hb hr hlocks (by subst ez16 ex14; exact (((if_pos c1).trans ((if_neg c11).trans ((if_neg c13).trans ((if_pos c15).trans ((if_pos c17).trans rfl)))))).symm) hK hP hD hS dX0_step_118
              · refine lv_iload_n hx hb dX0_step_102 rfl (lv_at hl 1 rfl) ?_
                refine lv_if_eq (tgt := 118) hx hb dX0_step_103 (by decide) (fun c18 => ?_) (fun c18 => ?_)
                · exact absurd c18 (by decide)
                · refine lv_aload_n hx hb dX0_step_106 rfl (lv_at hl 2 rfl) ?_
                  refine lv_bipush (v := 8) hx hb dX0_step_107 (by decide) ?_
                  refine gMv (As := [.int 8]) (rest := []) (f := h_countDown z16.2 (8 : Int32)) ⟨hx, hb, hml, hown, hts⟩ (ch_countDown l dC dI cI h0 qme0 qre1 qco2 tN tB H.size z16.2 (8 : Int32) (jin (by decide))) (cwV 1 hts (gV mL_0_107 mI_0_countDown mX_0_countDown mN_0 mB_0_countDown) rfl rfl rfl (by decide +kernel) ⟨Nat.le_of_ble_eq_true rfl, Nat.le_of_ble_eq_true rfl⟩) hK hP hD hS hZ rfl hl.1 rfl (Nat.le_of_ble_eq_true rfl) dX0_step_109 ⟨Nat.zero_le _, Nat.zero_le _⟩ (fun z19 ez19 H locs hP hD hS => ?_)
                  have hP : va_P (dC, dI) vwCl (gW cI h0 qme0 qre1 qco2 z19) H := hP
                  have hD : va_D (gA h0 qme0 qre1 qco2 s.heap.size) (gW cI h0 qme0 qre1 qco2 z19) := hD
                  refine lv_aload_n hx hb dX0_step_112 rfl (lv_at hl 2 rfl) ?_
                  refine lv_bipush (v := 7) hx hb dX0_step_113 (by decide) ?_
                  refine gMv (As := [.int 7]) (rest := []) (f := h_countDown z19 (7 : Int32)) ⟨hx, hb, hml, hown, hts⟩ (ch_countDown l dC dI cI h0 qme0 qre1 qco2 tN tB H.size z19 (7 : Int32) (jin (by decide))) (cwV 1 hts (gV mL_0_107 mI_0_countDown mX_0_countDown mN_0 mB_0_countDown) rfl rfl rfl (by decide +kernel) ⟨Nat.le_of_ble_eq_true rfl, Nat.le_of_ble_eq_true rfl⟩) hK hP hD hS hZ rfl hl.1 rfl (Nat.le_of_ble_eq_true rfl) dX0_step_115 ⟨Nat.zero_le _, Nat.zero_le _⟩ (fun z20 ez20 H locs hP hD hS => ?_)
                  have hP : va_P (dC, dI) vwCl (gW cI h0 qme0 qre1 qco2 z20) H := hP
                  have hD : va_D (gA h0 qme0 qre1 qco2 s.heap.size) (gW cI h0 qme0 qre1 qco2 z20) := hD
                  exact gVret (u := z20) hx hb hr hlocks (by subst ez20 ez19 ez16 ex14; exact (((if_pos c1).trans ((if_neg c11).trans ((if_neg c13).trans ((if_pos c15).trans ((if_neg c17).trans rfl)))))).symm) hK hP hD hS dX0_step_118
            · refine lv_aload_n hx hb dX0_step_74 rfl (lv_at hl 2 rfl) ?_
              refine lv_iconst (v := (-1)) hx hb dX0_step_75 (by decide) ?_
              refine lv_iload_n hx hb dX0_step_76 rfl (lv_at hl 0 rfl) ?_
              refine lv_isub hx hb dX0_step_77 ?_
              refine lv_aload_n hx hb dX0_step_78 rfl (lv_at hl 2 rfl) ?_
              refine va_get (D := (dC, dI)) (ci := 0) (v := .int st.2.2.2.1) (C := "PagedHart") (T := TX0) (N := 6) hx hb hts mU0 hown hK hP 0 rfl rfl 3 (by decide) (hts _ mF_0_20) (fun _ h9 => h9) rfl dX0_step_79 ?_
              refine gMi (As := [.int (((-1) : Int32) - x14), .int st.2.2.2.1]) (rest := []) (f := h_trap st (((-1) : Int32) - x14) st.2.2.2.1) ⟨hx, hb, hml, hown, hts⟩ (ch_trap l dC dI cI h0 qme0 qre1 qco2 tN tB H.size st (((-1) : Int32) - x14) st.2.2.2.1) (cwV 2 hts (gV mL_0_96 mI_0_trap mX_0_trap mN_0 mB_0_trap) rfl rfl rfl (by decide +kernel) ⟨Nat.le_of_ble_eq_true rfl, Nat.le_of_ble_eq_true rfl⟩) hK hP hD hS hZ rfl hl.1 rfl (Nat.le_of_ble_eq_true rfl) dX0_step_82 ⟨Nat.zero_le _, Nat.zero_le _⟩ (fun z21 ez21 H locs hP hD hS => ?_)
              have hP : va_P (dC, dI) vwCl (gW cI h0 qme0 qre1 qco2 z21.2) H := hP
              have hD : va_D (gA h0 qme0 qre1 qco2 s.heap.size) (gW cI h0 qme0 qre1 qco2 z21.2) := hD
              refine lv_pop hx hb dX0_step_85 rfl ?_
              exact gVret (u := z21.2) hx hb hr hlocks (by subst ez21 ex14; exact (((if_pos c1).trans ((if_neg c11).trans ((if_neg c13).trans ((if_neg c15).trans rfl))))).symm) hK hP hD hS dX0_step_86
          · refine lv_aload_n hx hb dX0_step_50 rfl (lv_at hl 1 rfl) ?_
            refine lv_ldc (v := (-2147483643)) hx hb hown (hts _ mC_0_99) dX0_step_51 ?_
            refine lv_iconst (v := 0) hx hb dX0_step_53 (by decide) ?_
            refine gMi (As := [.int (-2147483643), .int 0]) (rest := []) (f := h_trap st ((-2147483643) : Int32) (0 : Int32)) ⟨hx, hb, hml, hown, hts⟩ (ch_trap l dC dI cI h0 qme0 qre1 qco2 tN tB H.size st ((-2147483643) : Int32) (0 : Int32)) (cwV 2 hts (gV mL_0_96 mI_0_trap mX_0_trap mN_0 mB_0_trap) rfl rfl rfl (by decide +kernel) ⟨Nat.le_of_ble_eq_true rfl, Nat.le_of_ble_eq_true rfl⟩) hK hP hD hS hZ rfl hl.1 rfl (Nat.le_of_ble_eq_true rfl) dX0_step_54 ⟨Nat.zero_le _, Nat.zero_le _⟩ (fun z22 ez22 H locs hP hD hS => ?_)
            have hP : va_P (dC, dI) vwCl (gW cI h0 qme0 qre1 qco2 z22.2) H := hP
            have hD : va_D (gA h0 qme0 qre1 qco2 s.heap.size) (gW cI h0 qme0 qre1 qco2 z22.2) := hD
            refine lv_pop hx hb dX0_step_57 rfl ?_
            exact gVret (u := z22.2) hx hb hr hlocks (by subst ez22; exact (((if_pos c1).trans ((if_neg c11).trans ((if_pos c13).trans rfl)))).symm) hK hP hD hS dX0_step_58
      · refine lv_aload_n hx hb dX0_step_27 rfl (lv_at hl 1 rfl) ?_
        refine lv_bipush (v := 24) hx hb dX0_step_28 (by decide) ?_
        refine lv_iconst (v := 0) hx hb dX0_step_30 (by decide) ?_
        refine gMi (As := [.int 24, .int 0]) (rest := []) (f := h_trap st (24 : Int32) (0 : Int32)) ⟨hx, hb, hml, hown, hts⟩ (ch_trap l dC dI cI h0 qme0 qre1 qco2 tN tB H.size st (24 : Int32) (0 : Int32)) (cwV 2 hts (gV mL_0_96 mI_0_trap mX_0_trap mN_0 mB_0_trap) rfl rfl rfl (by decide +kernel) ⟨Nat.le_of_ble_eq_true rfl, Nat.le_of_ble_eq_true rfl⟩) hK hP hD hS hZ rfl hl.1 rfl (Nat.le_of_ble_eq_true rfl) dX0_step_31 ⟨Nat.zero_le _, Nat.zero_le _⟩ (fun z23 ez23 H locs hP hD hS => ?_)
        have hP : va_P (dC, dI) vwCl (gW cI h0 qme0 qre1 qco2 z23.2) H := hP
        have hD : va_D (gA h0 qme0 qre1 qco2 s.heap.size) (gW cI h0 qme0 qre1 qco2 z23.2) := hD
        refine lv_pop hx hb dX0_step_34 rfl ?_
        exact gVret (u := z23.2) hx hb hr hlocks (by subst ez23; exact (((if_pos c1).trans ((if_pos c11).trans rfl))).symm) hK hP hD hS dX0_step_35
