def h_countDown (st : HS) (p1 : Int32) : HS :=
  if (st.2.2.1 p1.toNatClampNeg) = ((-1) : Int32) then
    st
  else
    (st.1, st.2.1, upd st.2.2.1 p1.toNatClampNeg ((st.2.2.1 p1.toNatClampNeg) - (1 : Int32)), st.2.2.2.1, st.2.2.2.2.1, st.2.2.2.2.2)
set_option maxHeartbeats 4000000 in
set_option maxRecDepth 100000 in
theorem ch_countDown (l : Launch) (dC : Nat → ClassId) (dI : Nat → Nat → Nat) (cI h0 qme0 qre1 qco2 tN tB : Nat) (sz : Nat) (st : HS) (p1 : Int32) (hp1 : vp_in p1 9)  : Met l yX0_countDown (.code yX0_countDown cX0_countDown 2 none :: gBIG) ({ frames := 0, cells := 0, slots := 0, locals := 0 }) (va_Pc [.ref h0, .int p1] (gPre dC dI cI h0 qme0 qre1 qco2 tN tB sz st)) (va_Qv (fun v => v = h_countDown st p1) (gB dC dI cI h0 qme0 qre1 qco2 (gA h0 qme0 qre1 qco2 sz)) (gA h0 qme0 qre1 qco2 sz)) 0 0 (gA h0 qme0 qre1 qco2 sz) := by
  refine Met.ofW (cc := cX0_countDown) (maxL := 2) (ret := none) (by decide) rfl ?_
  intro p e s m args below meth c s₁ B hml hv
  obtain ⟨rfl, hsz, hP, hK, hD0, hZ⟩ := hv
  have hx := B.exec
  have hb := B.bytes
  have hr := B.returns
  have hts : ∀ w ∈ gBIG, w.before _ s = true := fun w h => atoms_spec (ws := (.code yX0_countDown cX0_countDown 2 none :: gBIG)) B.pre w (List.mem_cons_of_mem _ h)
  have hown : s.vm.findClass "PagedHart" = some m.cls := findClass_of_methodNamed B.named
  have hlocks := B.notSynchronized
  subst hsz
  have hD : va_D (gA h0 qme0 qre1 qco2 s.heap.size) (gW cI h0 qme0 qre1 qco2 st) := gD hD0
  have hS : va_S (gA h0 qme0 qre1 qco2 s.heap.size) s.heap s.heap [] := va_S.rf
  have hP : va_P (dC, dI) vwCl (gW cI h0 qme0 qre1 qco2 st) s.heap := hP
  have hl := lv_entry ([.ref h0, .int p1]) (n := 2) (Nat.le_of_ble_eq_true rfl)
  rw [lg_entry_eq]
  generalize (lg_sl ([.ref h0, .int p1]) ++ List.replicate (2 - (lg_sl ([.ref h0, .int p1])).length) Slot.unset).toArray = ls at hl ⊢
  refine jgo (P := fun H locs => va_P (dC, dI) vwCl (gW cI h0 qme0 qre1 qco2 st) H ∧ va_S (gA h0 qme0 qre1 qco2 s.heap.size) s.heap H locs) ⟨hP, hS⟩ (fun H locs hPS => ?_)
  obtain ⟨hP, hS⟩ := hPS
  have hl : lv_has ls 2 [(0, .ref h0), (1, .int p1)] := hl
  refine lv_aload_n hx hb dX0_countDown_0 rfl (lv_at hl 0 rfl) ?_
  refine va_get (D := (dC, dI)) (ci := 0) (v := .ref qco2) (C := "PagedHart") (T := TX0) (N := 6) hx hb hts mU0 hown hK hP 0 rfl rfl 2 (by decide) (hts _ mF_0_17) (fun _ h9 => h9) rfl dX0_countDown_1 ?_
  refine lv_iload_n hx hb dX0_countDown_4 rfl (lv_at hl 1 rfl) ?_
  refine va_iald (D := (dC, dI)) hx hb hK hP 3 0 rfl rfl hp1 dX0_countDown_5 ?_
  refine lv_iconst (v := (-1)) hx hb dX0_countDown_6 (by decide) ?_
  refine lv_icmp_eq (tgt := 20) hx hb dX0_countDown_7 (by decide) (fun c1 => ?_) (fun c1 => ?_)
  · exact gVret (u := st) hx hb hr hlocks (by exact (((if_pos c1).trans rfl)).symm) hK hP hD hS dX0_countDown_20
  · refine lv_aload_n hx hb dX0_countDown_10 rfl (lv_at hl 0 rfl) ?_
    refine va_get (D := (dC, dI)) (ci := 0) (v := .ref qco2) (C := "PagedHart") (T := TX0) (N := 6) hx hb hts mU0 hown hK hP 0 rfl rfl 2 (by decide) (hts _ mF_0_17) (fun _ h9 => h9) rfl dX0_countDown_11 ?_
    refine lv_iload_n hx hb dX0_countDown_14 rfl (lv_at hl 1 rfl) ?_
    refine lv_dup2_11 hx hb dX0_countDown_15 rfl rfl ?_
    refine va_iald (D := (dC, dI)) hx hb hK hP 3 0 rfl rfl hp1 dX0_countDown_16 ?_
    refine lv_iconst (v := 1) hx hb dX0_countDown_17 (by decide) ?_
    refine lv_isub hx hb dX0_countDown_18 ?_
    refine va_iast (D := (dC, dI)) hx hb hK hP hD hS 3 0 rfl rfl hp1 dX0_countDown_19 (fun H locs hP hD hS => ?_)
    have hP : va_P (dC, dI) vwCl (gW cI h0 qme0 qre1 qco2 (st.1, st.2.1, upd st.2.2.1 p1.toNatClampNeg ((st.2.2.1 p1.toNatClampNeg) - (1 : Int32)), st.2.2.2.1, st.2.2.2.2.1, st.2.2.2.2.2)) H := hP
    have hD : va_D (gA h0 qme0 qre1 qco2 s.heap.size) (gW cI h0 qme0 qre1 qco2 (st.1, st.2.1, upd st.2.2.1 p1.toNatClampNeg ((st.2.2.1 p1.toNatClampNeg) - (1 : Int32)), st.2.2.2.1, st.2.2.2.2.1, st.2.2.2.2.2)) := hD
    exact gVret (u := (st.1, st.2.1, upd st.2.2.1 p1.toNatClampNeg ((st.2.2.1 p1.toNatClampNeg) - (1 : Int32)), st.2.2.2.1, st.2.2.2.2.1, st.2.2.2.2.2)) hx hb hr hlocks (by exact (((if_neg c1).trans rfl)).symm) hK hP hD hS dX0_countDown_20

def h_trap (st : HS) (p1 : Int32) (p2 : Int32) : Int32 × HS :=
  let x1 : Int32 := (upd (upd (upd st.2.2.1 (3 : Int32).toNatClampNeg (st.2.2.2.1 &&& (hBit (3 : Int32).toNatClampNeg))) (4 : Int32).toNatClampNeg p1) (5 : Int32).toNatClampNeg p2) (0 : Int32).toNatClampNeg
  let x2 : Int32 := (upd (upd (upd (upd st.2.2.1 (3 : Int32).toNatClampNeg (st.2.2.2.1 &&& (hBit (3 : Int32).toNatClampNeg))) (4 : Int32).toNatClampNeg p1) (5 : Int32).toNatClampNeg p2) (0 : Int32).toNatClampNeg ((x1 &&& (262144 : Int32)) ||| (st.2.2.2.2.1 <<< ((8 : Int32) &&& 31)))) (1 : Int32).toNatClampNeg
  ((0 : Int32), (st.1, st.2.1, upd (upd (upd (upd st.2.2.1 (3 : Int32).toNatClampNeg (st.2.2.2.1 &&& (hBit (3 : Int32).toNatClampNeg))) (4 : Int32).toNatClampNeg p1) (5 : Int32).toNatClampNeg p2) (0 : Int32).toNatClampNeg ((x1 &&& (262144 : Int32)) ||| (st.2.2.2.2.1 <<< ((8 : Int32) &&& 31))), x2, (1 : Int32), st.2.2.2.2.2))
set_option maxHeartbeats 4000000 in
set_option maxRecDepth 100000 in
theorem ch_trap (l : Launch) (dC : Nat → ClassId) (dI : Nat → Nat → Nat) (cI h0 qme0 qre1 qco2 tN tB : Nat) (sz : Nat) (st : HS) (p1 : Int32) (p2 : Int32)  : Met l yX0_trap (.code yX0_trap cX0_trap 3 (some .boolean) :: gBIG) ({ frames := 0, cells := 0, slots := 0, locals := 0 }) (va_Pc [.ref h0, .int p1, .int p2] (gPre dC dI cI h0 qme0 qre1 qco2 tN tB sz st)) (va_Qi (fun r v => (r, v) = h_trap st p1 p2) (gB dC dI cI h0 qme0 qre1 qco2 (gA h0 qme0 qre1 qco2 sz)) (gA h0 qme0 qre1 qco2 sz)) 0 0 (gA h0 qme0 qre1 qco2 sz) := by
  refine Met.ofW (cc := cX0_trap) (maxL := 3) (ret := (some .boolean)) (by decide) rfl ?_
  intro p e s m args below meth c s₁ B hml hv
  obtain ⟨rfl, hsz, hP, hK, hD0, hZ⟩ := hv
  have hx := B.exec
  have hb := B.bytes
  have hr := B.returns
  have hts : ∀ w ∈ gBIG, w.before _ s = true := fun w h => atoms_spec (ws := (.code yX0_trap cX0_trap 3 (some .boolean) :: gBIG)) B.pre w (List.mem_cons_of_mem _ h)
  have hown : s.vm.findClass "PagedHart" = some m.cls := findClass_of_methodNamed B.named
  have hlocks := B.notSynchronized
  subst hsz
  have hD : va_D (gA h0 qme0 qre1 qco2 s.heap.size) (gW cI h0 qme0 qre1 qco2 st) := gD hD0
  have hS : va_S (gA h0 qme0 qre1 qco2 s.heap.size) s.heap s.heap [] := va_S.rf
  have hP : va_P (dC, dI) vwCl (gW cI h0 qme0 qre1 qco2 st) s.heap := hP
  have hl := lv_entry ([.ref h0, .int p1, .int p2]) (n := 3) (Nat.le_of_ble_eq_true rfl)
  rw [lg_entry_eq]
  generalize (lg_sl ([.ref h0, .int p1, .int p2]) ++ List.replicate (3 - (lg_sl ([.ref h0, .int p1, .int p2])).length) Slot.unset).toArray = ls at hl ⊢
  refine jgo (P := fun H locs => va_P (dC, dI) vwCl (gW cI h0 qme0 qre1 qco2 st) H ∧ va_S (gA h0 qme0 qre1 qco2 s.heap.size) s.heap H locs) ⟨hP, hS⟩ (fun H locs hPS => ?_)
  obtain ⟨hP, hS⟩ := hPS
  have hl : lv_has ls 3 [(0, .ref h0), (1, .int p1), (2, .int p2)] := hl
  refine lv_aload_n hx hb dX0_trap_0 rfl (lv_at hl 0 rfl) ?_
  refine va_get (D := (dC, dI)) (ci := 0) (v := .ref qco2) (C := "PagedHart") (T := TX0) (N := 6) hx hb hts mU0 hown hK hP 0 rfl rfl 2 (by decide) (hts _ mF_0_17) (fun _ h9 => h9) rfl dX0_trap_1 ?_
  refine lv_iconst (v := 3) hx hb dX0_trap_4 (by decide) ?_
  refine lv_aload_n hx hb dX0_trap_5 rfl (lv_at hl 0 rfl) ?_
  refine va_get (D := (dC, dI)) (ci := 0) (v := .int st.2.2.2.1) (C := "PagedHart") (T := TX0) (N := 6) hx hb hts mU0 hown hK hP 0 rfl rfl 3 (by decide) (hts _ mF_0_20) (fun _ h9 => h9) rfl dX0_trap_6 ?_
  refine va_gets hx hb hZ.2.2.1 hS hown (hts _ mF_0_63) (fun _ h => h) dX0_trap_9 ?_
  refine lv_iconst (v := 3) hx hb dX0_trap_12 (by decide) ?_
  refine va_ti hx hb hZ.2.2.2 hS (jin (by decide)) (v := .int (hBit (3 : Int32).toNatClampNeg)) rfl dX0_trap_13 ?_
  refine lv_iand hx hb dX0_trap_14 ?_
  refine va_iast (D := (dC, dI)) hx hb hK hP hD hS 3 0 rfl rfl (jin (by decide)) dX0_trap_15 (fun H locs hP hD hS => ?_)
  have hP : va_P (dC, dI) vwCl (gW cI h0 qme0 qre1 qco2 (st.1, st.2.1, upd st.2.2.1 (3 : Int32).toNatClampNeg (st.2.2.2.1 &&& (hBit (3 : Int32).toNatClampNeg)), st.2.2.2.1, st.2.2.2.2.1, st.2.2.2.2.2)) H := hP
  have hD : va_D (gA h0 qme0 qre1 qco2 s.heap.size) (gW cI h0 qme0 qre1 qco2 (st.1, st.2.1, upd st.2.2.1 (3 : Int32).toNatClampNeg (st.2.2.2.1 &&& (hBit (3 : Int32).toNatClampNeg)), st.2.2.2.1, st.2.2.2.2.1, st.2.2.2.2.2)) := hD
  refine lv_aload_n hx hb dX0_trap_16 rfl (lv_at hl 0 rfl) ?_
  refine va_get (D := (dC, dI)) (ci := 0) (v := .ref qco2) (C := "PagedHart") (T := TX0) (N := 6) hx hb hts mU0 hown hK hP 0 rfl rfl 2 (by decide) (hts _ mF_0_17) (fun _ h9 => h9) rfl dX0_trap_17 ?_
  refine lv_iconst (v := 4) hx hb dX0_trap_20 (by decide) ?_
  refine lv_iload_n hx hb dX0_trap_21 rfl (lv_at hl 1 rfl) ?_
  refine va_iast (D := (dC, dI)) hx hb hK hP hD hS 3 0 rfl rfl (jin (by decide)) dX0_trap_22 (fun H locs hP hD hS => ?_)
  have hP : va_P (dC, dI) vwCl (gW cI h0 qme0 qre1 qco2 (st.1, st.2.1, upd (upd st.2.2.1 (3 : Int32).toNatClampNeg (st.2.2.2.1 &&& (hBit (3 : Int32).toNatClampNeg))) (4 : Int32).toNatClampNeg p1, st.2.2.2.1, st.2.2.2.2.1, st.2.2.2.2.2)) H := hP
  have hD : va_D (gA h0 qme0 qre1 qco2 s.heap.size) (gW cI h0 qme0 qre1 qco2 (st.1, st.2.1, upd (upd st.2.2.1 (3 : Int32).toNatClampNeg (st.2.2.2.1 &&& (hBit (3 : Int32).toNatClampNeg))) (4 : Int32).toNatClampNeg p1, st.2.2.2.1, st.2.2.2.2.1, st.2.2.2.2.2)) := hD
  refine lv_aload_n hx hb dX0_trap_23 rfl (lv_at hl 0 rfl) ?_
  refine va_get (D := (dC, dI)) (ci := 0) (v := .ref qco2) (C := "PagedHart") (T := TX0) (N := 6) hx hb hts mU0 hown hK hP 0 rfl rfl 2 (by decide) (hts _ mF_0_17) (fun _ h9 => h9) rfl dX0_trap_24 ?_
  refine lv_iconst (v := 5) hx hb dX0_trap_27 (by decide) ?_
  refine lv_iload_n hx hb dX0_trap_28 rfl (lv_at hl 2 rfl) ?_
  refine va_iast (D := (dC, dI)) hx hb hK hP hD hS 3 0 rfl rfl (jin (by decide)) dX0_trap_29 (fun H locs hP hD hS => ?_)
  have hP : va_P (dC, dI) vwCl (gW cI h0 qme0 qre1 qco2 (st.1, st.2.1, upd (upd (upd st.2.2.1 (3 : Int32).toNatClampNeg (st.2.2.2.1 &&& (hBit (3 : Int32).toNatClampNeg))) (4 : Int32).toNatClampNeg p1) (5 : Int32).toNatClampNeg p2, st.2.2.2.1, st.2.2.2.2.1, st.2.2.2.2.2)) H := hP
  have hD : va_D (gA h0 qme0 qre1 qco2 s.heap.size) (gW cI h0 qme0 qre1 qco2 (st.1, st.2.1, upd (upd (upd st.2.2.1 (3 : Int32).toNatClampNeg (st.2.2.2.1 &&& (hBit (3 : Int32).toNatClampNeg))) (4 : Int32).toNatClampNeg p1) (5 : Int32).toNatClampNeg p2, st.2.2.2.1, st.2.2.2.2.1, st.2.2.2.2.2)) := hD
  refine lv_aload_n hx hb dX0_trap_30 rfl (lv_at hl 0 rfl) ?_
  refine va_get (D := (dC, dI)) (ci := 0) (v := .ref qco2) (C := "PagedHart") (T := TX0) (N := 6) hx hb hts mU0 hown hK hP 0 rfl rfl 2 (by decide) (hts _ mF_0_17) (fun _ h9 => h9) rfl dX0_trap_31 ?_
  refine lv_iconst (v := 0) hx hb dX0_trap_34 (by decide) ?_
  refine lv_aload_n hx hb dX0_trap_35 rfl (lv_at hl 0 rfl) ?_
  refine va_get (D := (dC, dI)) (ci := 0) (v := .ref qco2) (C := "PagedHart") (T := TX0) (N := 6) hx hb hts mU0 hown hK hP 0 rfl rfl 2 (by decide) (hts _ mF_0_17) (fun _ h9 => h9) rfl dX0_trap_36 ?_
  refine lv_iconst (v := 0) hx hb dX0_trap_39 (by decide) ?_
  refine va_iald (D := (dC, dI)) hx hb hK hP 3 0 rfl rfl (jin (by decide)) dX0_trap_40 ?_
  refine lv_topi (fun x1 ex1 => ?_)
  refine lv_ldc (v := 262144) hx hb hown (hts _ mC_0_72) dX0_trap_41 ?_
  refine lv_iand hx hb dX0_trap_43 ?_
  refine lv_aload_n hx hb dX0_trap_44 rfl (lv_at hl 0 rfl) ?_
  refine va_get (D := (dC, dI)) (ci := 0) (v := .int st.2.2.2.2.1) (C := "PagedHart") (T := TX0) (N := 6) hx hb hts mU0 hown hK hP 0 rfl rfl 4 (by decide) (hts _ mF_0_24) (fun _ h9 => h9) rfl dX0_trap_45 ?_
  refine lv_bipush (v := 8) hx hb dX0_trap_48 (by decide) ?_
  refine lv_ishl hx hb dX0_trap_50 ?_
  refine lv_ior hx hb dX0_trap_51 ?_
  refine va_iast (D := (dC, dI)) hx hb hK hP hD hS 3 0 rfl rfl (jin (by decide)) dX0_trap_52 (fun H locs hP hD hS => ?_)
  have hP : va_P (dC, dI) vwCl (gW cI h0 qme0 qre1 qco2 (st.1, st.2.1, upd (upd (upd (upd st.2.2.1 (3 : Int32).toNatClampNeg (st.2.2.2.1 &&& (hBit (3 : Int32).toNatClampNeg))) (4 : Int32).toNatClampNeg p1) (5 : Int32).toNatClampNeg p2) (0 : Int32).toNatClampNeg ((x1 &&& (262144 : Int32)) ||| (st.2.2.2.2.1 <<< ((8 : Int32) &&& 31))), st.2.2.2.1, st.2.2.2.2.1, st.2.2.2.2.2)) H := hP
  have hD : va_D (gA h0 qme0 qre1 qco2 s.heap.size) (gW cI h0 qme0 qre1 qco2 (st.1, st.2.1, upd (upd (upd (upd st.2.2.1 (3 : Int32).toNatClampNeg (st.2.2.2.1 &&& (hBit (3 : Int32).toNatClampNeg))) (4 : Int32).toNatClampNeg p1) (5 : Int32).toNatClampNeg p2) (0 : Int32).toNatClampNeg ((x1 &&& (262144 : Int32)) ||| (st.2.2.2.2.1 <<< ((8 : Int32) &&& 31))), st.2.2.2.1, st.2.2.2.2.1, st.2.2.2.2.2)) := hD
  refine lv_aload_n hx hb dX0_trap_53 rfl (lv_at hl 0 rfl) ?_
  refine lv_iconst (v := 1) hx hb dX0_trap_54 (by decide) ?_
  refine va_put (D := (dC, dI)) (ci := 0) (v := .int 1) (ty := .int) (C := "PagedHart") (T := TX0) (N := 6) hx hb hts mU0 tyX0 tyX0_ok nmX0 hown hK hP hD hS 0 rfl rfl 4 (by decide) (hts _ mF_0_24) (fun _ h9 => h9) rfl (by decide +kernel) rfl rfl (Nat.le_of_ble_eq_true rfl) dX0_trap_55 (fun H locs hP hD hS => ?_)
  have hP : va_P (dC, dI) vwCl (gW cI h0 qme0 qre1 qco2 (st.1, st.2.1, upd (upd (upd (upd st.2.2.1 (3 : Int32).toNatClampNeg (st.2.2.2.1 &&& (hBit (3 : Int32).toNatClampNeg))) (4 : Int32).toNatClampNeg p1) (5 : Int32).toNatClampNeg p2) (0 : Int32).toNatClampNeg ((x1 &&& (262144 : Int32)) ||| (st.2.2.2.2.1 <<< ((8 : Int32) &&& 31))), st.2.2.2.1, (1 : Int32), st.2.2.2.2.2)) H := hP
  have hD : va_D (gA h0 qme0 qre1 qco2 s.heap.size) (gW cI h0 qme0 qre1 qco2 (st.1, st.2.1, upd (upd (upd (upd st.2.2.1 (3 : Int32).toNatClampNeg (st.2.2.2.1 &&& (hBit (3 : Int32).toNatClampNeg))) (4 : Int32).toNatClampNeg p1) (5 : Int32).toNatClampNeg p2) (0 : Int32).toNatClampNeg ((x1 &&& (262144 : Int32)) ||| (st.2.2.2.2.1 <<< ((8 : Int32) &&& 31))), st.2.2.2.1, (1 : Int32), st.2.2.2.2.2)) := hD
  refine lv_aload_n hx hb dX0_trap_58 rfl (lv_at hl 0 rfl) ?_
  refine lv_aload_n hx hb dX0_trap_59 rfl (lv_at hl 0 rfl) ?_
  refine va_get (D := (dC, dI)) (ci := 0) (v := .ref qco2) (C := "PagedHart") (T := TX0) (N := 6) hx hb hts mU0 hown hK hP 0 rfl rfl 2 (by decide) (hts _ mF_0_17) (fun _ h9 => h9) rfl dX0_trap_60 ?_
  refine lv_iconst (v := 1) hx hb dX0_trap_63 (by decide) ?_
  refine va_iald (D := (dC, dI)) hx hb hK hP 3 0 rfl rfl (jin (by decide)) dX0_trap_64 ?_
  refine lv_topi (fun x2 ex2 => ?_)
  refine va_put (D := (dC, dI)) (ci := 0) (v := .int x2) (ty := .int) (C := "PagedHart") (T := TX0) (N := 6) hx hb hts mU0 tyX0 tyX0_ok nmX0 hown hK hP hD hS 0 rfl rfl 3 (by decide) (hts _ mF_0_20) (fun _ h9 => h9) rfl (by decide +kernel) rfl rfl (Nat.le_of_ble_eq_true rfl) dX0_trap_65 (fun H locs hP hD hS => ?_)
  have hP : va_P (dC, dI) vwCl (gW cI h0 qme0 qre1 qco2 (st.1, st.2.1, upd (upd (upd (upd st.2.2.1 (3 : Int32).toNatClampNeg (st.2.2.2.1 &&& (hBit (3 : Int32).toNatClampNeg))) (4 : Int32).toNatClampNeg p1) (5 : Int32).toNatClampNeg p2) (0 : Int32).toNatClampNeg ((x1 &&& (262144 : Int32)) ||| (st.2.2.2.2.1 <<< ((8 : Int32) &&& 31))), x2, (1 : Int32), st.2.2.2.2.2)) H := hP
  have hD : va_D (gA h0 qme0 qre1 qco2 s.heap.size) (gW cI h0 qme0 qre1 qco2 (st.1, st.2.1, upd (upd (upd (upd st.2.2.1 (3 : Int32).toNatClampNeg (st.2.2.2.1 &&& (hBit (3 : Int32).toNatClampNeg))) (4 : Int32).toNatClampNeg p1) (5 : Int32).toNatClampNeg p2) (0 : Int32).toNatClampNeg ((x1 &&& (262144 : Int32)) ||| (st.2.2.2.2.1 <<< ((8 : Int32) &&& 31))), x2, (1 : Int32), st.2.2.2.2.2)) := hD
  refine lv_iconst (v := 0) hx hb dX0_trap_68 (by decide) ?_
  exact gZret (v := 0) (u := (st.1, st.2.1, upd (upd (upd (upd st.2.2.1 (3 : Int32).toNatClampNeg (st.2.2.2.1 &&& (hBit (3 : Int32).toNatClampNeg))) (4 : Int32).toNatClampNeg p1) (5 : Int32).toNatClampNeg p2) (0 : Int32).toNatClampNeg ((x1 &&& (262144 : Int32)) ||| (st.2.2.2.2.1 <<< ((8 : Int32) &&& 31))), x2, (1 : Int32), st.2.2.2.2.2)) hx hb hr hlocks rfl (by subst ex2 ex1; exact (rfl).symm) hK hP hD hS dX0_trap_69
theorem hb_trap (st : HS) (p1 : Int32) (p2 : Int32) : (h_trap st p1 p2).1 = 0 ∨ (h_trap st p1 p2).1 = 1 := by
  unfold h_trap
  try dsimp only
  (repeat' split) <;> first | exact Or.inl rfl | exact Or.inr rfl

def h_refuse (st : HS) (p1 : Int32) : Int32 × HS :=
  let z1 : Int32 × HS := h_trap st (2 : Int32) p1
  z1
set_option maxHeartbeats 4000000 in
set_option maxRecDepth 100000 in
theorem ch_refuse (l : Launch) (dC : Nat → ClassId) (dI : Nat → Nat → Nat) (cI h0 qme0 qre1 qco2 tN tB : Nat) (sz : Nat) (st : HS) (p1 : Int32)  : Met l yX0_refuse (.code yX0_refuse cX0_refuse 2 (some .boolean) :: gBIG) ({ frames := 1, cells := 0, slots := 0, locals := 22 }) (va_Pc [.ref h0, .int p1] (gPre dC dI cI h0 qme0 qre1 qco2 tN tB sz st)) (va_Qi (fun r v => (r, v) = h_refuse st p1) (gB dC dI cI h0 qme0 qre1 qco2 (gA h0 qme0 qre1 qco2 sz)) (gA h0 qme0 qre1 qco2 sz)) 0 0 (gA h0 qme0 qre1 qco2 sz) := by
  refine Met.ofW (cc := cX0_refuse) (maxL := 2) (ret := (some .boolean)) (by decide) rfl ?_
  intro p e s m args below meth c s₁ B hml hv
  obtain ⟨rfl, hsz, hP, hK, hD0, hZ⟩ := hv
  have hx := B.exec
  have hb := B.bytes
  have hr := B.returns
  have hts : ∀ w ∈ gBIG, w.before _ s = true := fun w h => atoms_spec (ws := (.code yX0_refuse cX0_refuse 2 (some .boolean) :: gBIG)) B.pre w (List.mem_cons_of_mem _ h)
  have hown : s.vm.findClass "PagedHart" = some m.cls := findClass_of_methodNamed B.named
  have hlocks := B.notSynchronized
  subst hsz
  have hD : va_D (gA h0 qme0 qre1 qco2 s.heap.size) (gW cI h0 qme0 qre1 qco2 st) := gD hD0
  have hS : va_S (gA h0 qme0 qre1 qco2 s.heap.size) s.heap s.heap [] := va_S.rf
  have hP : va_P (dC, dI) vwCl (gW cI h0 qme0 qre1 qco2 st) s.heap := hP
  have hl := lv_entry ([.ref h0, .int p1]) (n := 2) (Nat.le_of_ble_eq_true rfl)
  rw [lg_entry_eq]
  generalize (lg_sl ([.ref h0, .int p1]) ++ List.replicate (2 - (lg_sl ([.ref h0, .int p1])).length) Slot.unset).toArray = ls at hl ⊢
  refine jgo (P := fun H locs => va_P (dC, dI) vwCl (gW cI h0 qme0 qre1 qco2 st) H ∧ va_S (gA h0 qme0 qre1 qco2 s.heap.size) s.heap H locs) ⟨hP, hS⟩ (fun H locs hPS => ?_)
  obtain ⟨hP, hS⟩ := hPS
  have hl : lv_has ls 2 [(0, .ref h0), (1, .int p1)] := hl
  refine lv_aload_n hx hb dX0_refuse_0 rfl (lv_at hl 0 rfl) ?_
  refine lv_iconst (v := 2) hx hb dX0_refuse_1 (by decide) ?_
  refine lv_iload_n hx hb dX0_refuse_2 rfl (lv_at hl 1 rfl) ?_
  refine gMi (As := [.int 2, .int p1]) (rest := []) (f := h_trap st (2 : Int32) p1) ⟨hx, hb, hml, hown, hts⟩ (ch_trap l dC dI cI h0 qme0 qre1 qco2 tN tB H.size st (2 : Int32) p1) (cwV 2 hts (gV mL_0_96 mI_0_trap mX_0_trap mN_0 mB_0_trap) rfl rfl rfl (by decide +kernel) ⟨Nat.le_of_ble_eq_true rfl, Nat.le_of_ble_eq_true rfl⟩) hK hP hD hS hZ rfl hl.1 rfl (Nat.le_of_ble_eq_true rfl) dX0_refuse_3 ⟨Nat.zero_le _, Nat.zero_le _⟩ (fun z1 ez1 H locs hP hD hS => ?_)
  have hP : va_P (dC, dI) vwCl (gW cI h0 qme0 qre1 qco2 z1.2) H := hP
  have hD : va_D (gA h0 qme0 qre1 qco2 s.heap.size) (gW cI h0 qme0 qre1 qco2 z1.2) := hD
  exact gZret (v := z1.1) (u := z1.2) hx hb hr hlocks (jnb (by rw [ez1]; exact hb_trap st (2 : Int32) p1)) (by subst ez1; exact (rfl).symm) hK hP hD hS dX0_refuse_6
theorem hb_refuse (st : HS) (p1 : Int32) : (h_refuse st p1).1 = 0 ∨ (h_refuse st p1).1 = 1 := by
  unfold h_refuse
  try dsimp only
  (repeat' split) <;> first | with_reducible exact hb_trap _ _ _ | exact Or.inl rfl | exact Or.inr rfl

def h_goOn (st : HS)  : Int32 × HS :=
  ((1 : Int32), (st.1, st.2.1, st.2.2.1, st.2.2.2.1 + (4 : Int32), st.2.2.2.2.1, st.2.2.2.2.2))
set_option maxHeartbeats 4000000 in
set_option maxRecDepth 100000 in
theorem ch_goOn (l : Launch) (dC : Nat → ClassId) (dI : Nat → Nat → Nat) (cI h0 qme0 qre1 qco2 tN tB : Nat) (sz : Nat) (st : HS)   : Met l yX0_goOn (.code yX0_goOn cX0_goOn 1 (some .boolean) :: gBIG) ({ frames := 0, cells := 0, slots := 0, locals := 0 }) (va_Pc [.ref h0] (gPre dC dI cI h0 qme0 qre1 qco2 tN tB sz st)) (va_Qi (fun r v => (r, v) = h_goOn st) (gB dC dI cI h0 qme0 qre1 qco2 (gA h0 qme0 qre1 qco2 sz)) (gA h0 qme0 qre1 qco2 sz)) 0 0 (gA h0 qme0 qre1 qco2 sz) := by
  refine Met.ofW (cc := cX0_goOn) (maxL := 1) (ret := (some .boolean)) (by decide) rfl ?_
  intro p e s m args below meth c s₁ B hml hv
  obtain ⟨rfl, hsz, hP, hK, hD0, hZ⟩ := hv
  have hx := B.exec
  have hb := B.bytes
  have hr := B.returns
  have hts : ∀ w ∈ gBIG, w.before _ s = true := fun w h => atoms_spec (ws := (.code yX0_goOn cX0_goOn 1 (some .boolean) :: gBIG)) B.pre w (List.mem_cons_of_mem _ h)
  have hown : s.vm.findClass "PagedHart" = some m.cls := findClass_of_methodNamed B.named
  have hlocks := B.notSynchronized
  subst hsz
  have hD : va_D (gA h0 qme0 qre1 qco2 s.heap.size) (gW cI h0 qme0 qre1 qco2 st) := gD hD0
  have hS : va_S (gA h0 qme0 qre1 qco2 s.heap.size) s.heap s.heap [] := va_S.rf
  have hP : va_P (dC, dI) vwCl (gW cI h0 qme0 qre1 qco2 st) s.heap := hP
  have hl := lv_entry ([.ref h0]) (n := 1) (Nat.le_of_ble_eq_true rfl)
  rw [lg_entry_eq]
  generalize (lg_sl ([.ref h0]) ++ List.replicate (1 - (lg_sl ([.ref h0])).length) Slot.unset).toArray = ls at hl ⊢
  refine jgo (P := fun H locs => va_P (dC, dI) vwCl (gW cI h0 qme0 qre1 qco2 st) H ∧ va_S (gA h0 qme0 qre1 qco2 s.heap.size) s.heap H locs) ⟨hP, hS⟩ (fun H locs hPS => ?_)
  obtain ⟨hP, hS⟩ := hPS
  have hl : lv_has ls 1 [(0, .ref h0)] := hl
  refine lv_aload_n hx hb dX0_goOn_0 rfl (lv_at hl 0 rfl) ?_
  refine lv_dup hx hb dX0_goOn_1 rfl ?_
  refine va_get (D := (dC, dI)) (ci := 0) (v := .int st.2.2.2.1) (C := "PagedHart") (T := TX0) (N := 6) hx hb hts mU0 hown hK hP 0 rfl rfl 3 (by decide) (hts _ mF_0_20) (fun _ h9 => h9) rfl dX0_goOn_2 ?_
  refine lv_iconst (v := 4) hx hb dX0_goOn_5 (by decide) ?_
  refine lv_iadd hx hb dX0_goOn_6 ?_
  refine va_put (D := (dC, dI)) (ci := 0) (v := .int (st.2.2.2.1 + (4 : Int32))) (ty := .int) (C := "PagedHart") (T := TX0) (N := 6) hx hb hts mU0 tyX0 tyX0_ok nmX0 hown hK hP hD hS 0 rfl rfl 3 (by decide) (hts _ mF_0_20) (fun _ h9 => h9) rfl (by decide +kernel) rfl rfl (Nat.le_of_ble_eq_true rfl) dX0_goOn_7 (fun H locs hP hD hS => ?_)
  have hP : va_P (dC, dI) vwCl (gW cI h0 qme0 qre1 qco2 (st.1, st.2.1, st.2.2.1, st.2.2.2.1 + (4 : Int32), st.2.2.2.2.1, st.2.2.2.2.2)) H := hP
  have hD : va_D (gA h0 qme0 qre1 qco2 s.heap.size) (gW cI h0 qme0 qre1 qco2 (st.1, st.2.1, st.2.2.1, st.2.2.2.1 + (4 : Int32), st.2.2.2.2.1, st.2.2.2.2.2)) := hD
  refine lv_iconst (v := 1) hx hb dX0_goOn_10 (by decide) ?_
  exact gZret (v := 1) (u := (st.1, st.2.1, st.2.2.1, st.2.2.2.1 + (4 : Int32), st.2.2.2.2.1, st.2.2.2.2.2)) hx hb hr hlocks rfl (by exact (rfl).symm) hK hP hD hS dX0_goOn_11
theorem hb_goOn (st : HS)  : (h_goOn st ).1 = 0 ∨ (h_goOn st ).1 = 1 := by
  unfold h_goOn
  try dsimp only
  (repeat' split) <;> first | with_reducible exact hb_trap _ _ _ | with_reducible exact hb_refuse _ _ | exact Or.inl rfl | exact Or.inr rfl

def h_writeD (st : HS) (p1 : Int32) (p2 : Int32) : HS :=
  let x1 : Int32 := (jush p1 (7 : Int32)) &&& (31 : Int32)
  if x1 = 0 then
    st
  else
    (st.1, upd st.2.1 x1.toNatClampNeg p2, st.2.2.1, st.2.2.2.1, st.2.2.2.2.1, st.2.2.2.2.2)
set_option maxHeartbeats 4000000 in
set_option maxRecDepth 100000 in
theorem ch_writeD (l : Launch) (dC : Nat → ClassId) (dI : Nat → Nat → Nat) (cI h0 qme0 qre1 qco2 tN tB : Nat) (sz : Nat) (st : HS) (p1 : Int32) (p2 : Int32)  : Met l yX0_writeD (.code yX0_writeD cX0_writeD 4 none :: gBIG) ({ frames := 0, cells := 0, slots := 0, locals := 0 }) (va_Pc [.ref h0, .int p1, .int p2] (gPre dC dI cI h0 qme0 qre1 qco2 tN tB sz st)) (va_Qv (fun v => v = h_writeD st p1 p2) (gB dC dI cI h0 qme0 qre1 qco2 (gA h0 qme0 qre1 qco2 sz)) (gA h0 qme0 qre1 qco2 sz)) 0 0 (gA h0 qme0 qre1 qco2 sz) := by
  refine Met.ofW (cc := cX0_writeD) (maxL := 4) (ret := none) (by decide) rfl ?_
  intro p e s m args below meth c s₁ B hml hv
  obtain ⟨rfl, hsz, hP, hK, hD0, hZ⟩ := hv
  have hx := B.exec
  have hb := B.bytes
  have hr := B.returns
  have hts : ∀ w ∈ gBIG, w.before _ s = true := fun w h => atoms_spec (ws := (.code yX0_writeD cX0_writeD 4 none :: gBIG)) B.pre w (List.mem_cons_of_mem _ h)
  have hown : s.vm.findClass "PagedHart" = some m.cls := findClass_of_methodNamed B.named
  have hlocks := B.notSynchronized
  subst hsz
  have hD : va_D (gA h0 qme0 qre1 qco2 s.heap.size) (gW cI h0 qme0 qre1 qco2 st) := gD hD0
  have hS : va_S (gA h0 qme0 qre1 qco2 s.heap.size) s.heap s.heap [] := va_S.rf
  have hP : va_P (dC, dI) vwCl (gW cI h0 qme0 qre1 qco2 st) s.heap := hP
  have hl := lv_entry ([.ref h0, .int p1, .int p2]) (n := 4) (Nat.le_of_ble_eq_true rfl)
  rw [lg_entry_eq]
  generalize (lg_sl ([.ref h0, .int p1, .int p2]) ++ List.replicate (4 - (lg_sl ([.ref h0, .int p1, .int p2])).length) Slot.unset).toArray = ls at hl ⊢
  refine jgo (P := fun H locs => va_P (dC, dI) vwCl (gW cI h0 qme0 qre1 qco2 st) H ∧ va_S (gA h0 qme0 qre1 qco2 s.heap.size) s.heap H locs) ⟨hP, hS⟩ (fun H locs hPS => ?_)
  obtain ⟨hP, hS⟩ := hPS
  have hl : lv_has ls 4 [(0, .ref h0), (1, .int p1), (2, .int p2)] := hl
  refine lv_iload_n hx hb dX0_writeD_0 rfl (lv_at hl 1 rfl) ?_
  refine lv_bipush (v := 7) hx hb dX0_writeD_1 (by decide) ?_
  refine lv_iushr (v := jush p1 (7 : Int32)) hx hb dX0_writeD_3 rfl ?_
  refine lv_bipush (v := 31) hx hb dX0_writeD_4 (by decide) ?_
  refine lv_iand hx hb dX0_writeD_6 ?_
  refine lv_topi (fun x1 ex1 => ?_)
  refine lv_istore_n (lv' := [(3, .int x1), (0, .ref h0), (1, .int p1), (2, .int p2)]) hx hb dX0_writeD_7 rfl hl (by decide) rfl (fun ls hl => ?_)
  refine lv_iload_n hx hb dX0_writeD_8 rfl (lv_at hl 0 rfl) ?_
  refine lv_if_eq (tgt := 19) hx hb dX0_writeD_9 (by decide) (fun c2 => ?_) (fun c2 => ?_)
  · exact gVret (u := st) hx hb hr hlocks (by subst ex1; exact (((if_pos c2).trans rfl)).symm) hK hP hD hS dX0_writeD_19
  · refine lv_aload_n hx hb dX0_writeD_12 rfl (lv_at hl 1 rfl) ?_
    refine va_get (D := (dC, dI)) (ci := 0) (v := .ref qre1) (C := "PagedHart") (T := TX0) (N := 6) hx hb hts mU0 hown hK hP 0 rfl rfl 1 (by decide) (hts _ mF_0_14) (fun _ h9 => h9) rfl dX0_writeD_13 ?_
    refine lv_iload_n hx hb dX0_writeD_16 rfl (lv_at hl 0 rfl) ?_
    refine lv_iload_n hx hb dX0_writeD_17 rfl (lv_at hl 3 rfl) ?_
    refine va_iast (D := (dC, dI)) hx hb hK hP hD hS 2 0 rfl rfl (by rw [ex1]; exact pk_andIn _ 5 rfl (by decide)) dX0_writeD_18 (fun H locs hP hD hS => ?_)
    have hP : va_P (dC, dI) vwCl (gW cI h0 qme0 qre1 qco2 (st.1, upd st.2.1 x1.toNatClampNeg p2, st.2.2.1, st.2.2.2.1, st.2.2.2.2.1, st.2.2.2.2.2)) H := hP
    have hD : va_D (gA h0 qme0 qre1 qco2 s.heap.size) (gW cI h0 qme0 qre1 qco2 (st.1, upd st.2.1 x1.toNatClampNeg p2, st.2.2.1, st.2.2.2.1, st.2.2.2.2.1, st.2.2.2.2.2)) := hD
    exact gVret (u := (st.1, upd st.2.1 x1.toNatClampNeg p2, st.2.2.1, st.2.2.2.1, st.2.2.2.2.1, st.2.2.2.2.2)) hx hb hr hlocks (by subst ex1; exact (((if_neg c2).trans rfl)).symm) hK hP hD hS dX0_writeD_19

def h_goOnWith (st : HS) (p1 : Int32) (p2 : Int32) : Int32 × HS :=
  let z1 : HS := h_writeD st p1 p2
  let z2 : Int32 × HS := h_goOn z1
  z2
set_option maxHeartbeats 4000000 in
set_option maxRecDepth 100000 in
theorem ch_goOnWith (l : Launch) (dC : Nat → ClassId) (dI : Nat → Nat → Nat) (cI h0 qme0 qre1 qco2 tN tB : Nat) (sz : Nat) (st : HS) (p1 : Int32) (p2 : Int32)  : Met l yX0_goOnWith (.code yX0_goOnWith cX0_goOnWith 3 (some .boolean) :: gBIG) ({ frames := 1, cells := 0, slots := 0, locals := 23 }) (va_Pc [.ref h0, .int p1, .int p2] (gPre dC dI cI h0 qme0 qre1 qco2 tN tB sz st)) (va_Qi (fun r v => (r, v) = h_goOnWith st p1 p2) (gB dC dI cI h0 qme0 qre1 qco2 (gA h0 qme0 qre1 qco2 sz)) (gA h0 qme0 qre1 qco2 sz)) 0 0 (gA h0 qme0 qre1 qco2 sz) := by
  refine Met.ofW (cc := cX0_goOnWith) (maxL := 3) (ret := (some .boolean)) (by decide) rfl ?_
  intro p e s m args below meth c s₁ B hml hv
  obtain ⟨rfl, hsz, hP, hK, hD0, hZ⟩ := hv
  have hx := B.exec
  have hb := B.bytes
  have hr := B.returns
  have hts : ∀ w ∈ gBIG, w.before _ s = true := fun w h => atoms_spec (ws := (.code yX0_goOnWith cX0_goOnWith 3 (some .boolean) :: gBIG)) B.pre w (List.mem_cons_of_mem _ h)
  have hown : s.vm.findClass "PagedHart" = some m.cls := findClass_of_methodNamed B.named
  have hlocks := B.notSynchronized
  subst hsz
  have hD : va_D (gA h0 qme0 qre1 qco2 s.heap.size) (gW cI h0 qme0 qre1 qco2 st) := gD hD0
  have hS : va_S (gA h0 qme0 qre1 qco2 s.heap.size) s.heap s.heap [] := va_S.rf
  have hP : va_P (dC, dI) vwCl (gW cI h0 qme0 qre1 qco2 st) s.heap := hP
  have hl := lv_entry ([.ref h0, .int p1, .int p2]) (n := 3) (Nat.le_of_ble_eq_true rfl)
  rw [lg_entry_eq]
  generalize (lg_sl ([.ref h0, .int p1, .int p2]) ++ List.replicate (3 - (lg_sl ([.ref h0, .int p1, .int p2])).length) Slot.unset).toArray = ls at hl ⊢
  refine jgo (P := fun H locs => va_P (dC, dI) vwCl (gW cI h0 qme0 qre1 qco2 st) H ∧ va_S (gA h0 qme0 qre1 qco2 s.heap.size) s.heap H locs) ⟨hP, hS⟩ (fun H locs hPS => ?_)
  obtain ⟨hP, hS⟩ := hPS
  have hl : lv_has ls 3 [(0, .ref h0), (1, .int p1), (2, .int p2)] := hl
  refine lv_aload_n hx hb dX0_goOnWith_0 rfl (lv_at hl 0 rfl) ?_
  refine lv_iload_n hx hb dX0_goOnWith_1 rfl (lv_at hl 1 rfl) ?_
  refine lv_iload_n hx hb dX0_goOnWith_2 rfl (lv_at hl 2 rfl) ?_
  refine gMv (As := [.int p1, .int p2]) (rest := []) (f := h_writeD st p1 p2) ⟨hx, hb, hml, hown, hts⟩ (ch_writeD l dC dI cI h0 qme0 qre1 qco2 tN tB H.size st p1 p2) (cwV 2 hts (gV mL_0_111 mI_0_writeD mX_0_writeD mN_0 mB_0_writeD) rfl rfl rfl (by decide +kernel) ⟨Nat.le_of_ble_eq_true rfl, Nat.le_of_ble_eq_true rfl⟩) hK hP hD hS hZ rfl hl.1 rfl (Nat.le_of_ble_eq_true rfl) dX0_goOnWith_3 ⟨Nat.zero_le _, Nat.zero_le _⟩ (fun z1 ez1 H locs hP hD hS => ?_)
  have hP : va_P (dC, dI) vwCl (gW cI h0 qme0 qre1 qco2 z1) H := hP
  have hD : va_D (gA h0 qme0 qre1 qco2 s.heap.size) (gW cI h0 qme0 qre1 qco2 z1) := hD
  refine lv_aload_n hx hb dX0_goOnWith_6 rfl (lv_at hl 0 rfl) ?_
  refine gMi (As := []) (rest := []) (f := h_goOn z1) ⟨hx, hb, hml, hown, hts⟩ (ch_goOn l dC dI cI h0 qme0 qre1 qco2 tN tB H.size z1 ) (cwV 0 hts (gV mL_0_115 mI_0_goOn mX_0_goOn mN_0 mB_0_goOn) rfl rfl rfl (by decide +kernel) ⟨Nat.le_of_ble_eq_true rfl, Nat.le_of_ble_eq_true rfl⟩) hK hP hD hS hZ rfl hl.1 rfl (Nat.le_of_ble_eq_true rfl) dX0_goOnWith_7 ⟨Nat.zero_le _, Nat.zero_le _⟩ (fun z2 ez2 H locs hP hD hS => ?_)
  have hP : va_P (dC, dI) vwCl (gW cI h0 qme0 qre1 qco2 z2.2) H := hP
  have hD : va_D (gA h0 qme0 qre1 qco2 s.heap.size) (gW cI h0 qme0 qre1 qco2 z2.2) := hD
  exact gZret (v := z2.1) (u := z2.2) hx hb hr hlocks (jnb (by rw [ez2]; exact hb_goOn z1)) (by subst ez2 ez1; exact (rfl).symm) hK hP hD hS dX0_goOnWith_10
theorem hb_goOnWith (st : HS) (p1 : Int32) (p2 : Int32) : (h_goOnWith st p1 p2).1 = 0 ∨ (h_goOnWith st p1 p2).1 = 1 := by
  unfold h_goOnWith
  try dsimp only
  (repeat' split) <;> first | with_reducible exact hb_trap _ _ _ | with_reducible exact hb_refuse _ _ | with_reducible exact hb_goOn _ | exact Or.inl rfl | exact Or.inr rfl

def h_jump (st : HS) (p1 : Int32) (p2 : Int32) : Int32 × HS :=
  if (p2 &&& (3 : Int32)) = 0 then
    let z2 : HS := h_writeD st p1 (st.2.2.2.1 + (4 : Int32))
    ((1 : Int32), (z2.1, z2.2.1, z2.2.2.1, p2, z2.2.2.2.2.1, z2.2.2.2.2.2))
  else
    let z3 : Int32 × HS := h_trap st (0 : Int32) p2
    z3
set_option maxHeartbeats 4000000 in
set_option maxRecDepth 100000 in
theorem ch_jump (l : Launch) (dC : Nat → ClassId) (dI : Nat → Nat → Nat) (cI h0 qme0 qre1 qco2 tN tB : Nat) (sz : Nat) (st : HS) (p1 : Int32) (p2 : Int32)  : Met l yX0_jump (.code yX0_jump cX0_jump 3 (some .boolean) :: gBIG) ({ frames := 1, cells := 0, slots := 0, locals := 23 }) (va_Pc [.ref h0, .int p1, .int p2] (gPre dC dI cI h0 qme0 qre1 qco2 tN tB sz st)) (va_Qi (fun r v => (r, v) = h_jump st p1 p2) (gB dC dI cI h0 qme0 qre1 qco2 (gA h0 qme0 qre1 qco2 sz)) (gA h0 qme0 qre1 qco2 sz)) 0 0 (gA h0 qme0 qre1 qco2 sz) := by
  refine Met.ofW (cc := cX0_jump) (maxL := 3) (ret := (some .boolean)) (by decide) rfl ?_
  intro p e s m args below meth c s₁ B hml hv
  obtain ⟨rfl, hsz, hP, hK, hD0, hZ⟩ := hv
  have hx := B.exec
  have hb := B.bytes
  have hr := B.returns
  have hts : ∀ w ∈ gBIG, w.before _ s = true := fun w h => atoms_spec (ws := (.code yX0_jump cX0_jump 3 (some .boolean) :: gBIG)) B.pre w (List.mem_cons_of_mem _ h)
  have hown : s.vm.findClass "PagedHart" = some m.cls := findClass_of_methodNamed B.named
  have hlocks := B.notSynchronized
  subst hsz
  have hD : va_D (gA h0 qme0 qre1 qco2 s.heap.size) (gW cI h0 qme0 qre1 qco2 st) := gD hD0
  have hS : va_S (gA h0 qme0 qre1 qco2 s.heap.size) s.heap s.heap [] := va_S.rf
  have hP : va_P (dC, dI) vwCl (gW cI h0 qme0 qre1 qco2 st) s.heap := hP
  have hl := lv_entry ([.ref h0, .int p1, .int p2]) (n := 3) (Nat.le_of_ble_eq_true rfl)
  rw [lg_entry_eq]
  generalize (lg_sl ([.ref h0, .int p1, .int p2]) ++ List.replicate (3 - (lg_sl ([.ref h0, .int p1, .int p2])).length) Slot.unset).toArray = ls at hl ⊢
  refine jgo (P := fun H locs => va_P (dC, dI) vwCl (gW cI h0 qme0 qre1 qco2 st) H ∧ va_S (gA h0 qme0 qre1 qco2 s.heap.size) s.heap H locs) ⟨hP, hS⟩ (fun H locs hPS => ?_)
  obtain ⟨hP, hS⟩ := hPS
  have hl : lv_has ls 3 [(0, .ref h0), (1, .int p1), (2, .int p2)] := hl
  refine lv_iload_n hx hb dX0_jump_0 rfl (lv_at hl 2 rfl) ?_
  refine lv_iconst (v := 3) hx hb dX0_jump_1 (by decide) ?_
  refine lv_iand hx hb dX0_jump_2 ?_
  refine lv_if_eq (tgt := 13) hx hb dX0_jump_3 (by decide) (fun c1 => ?_) (fun c1 => ?_)
  · refine lv_aload_n hx hb dX0_jump_13 rfl (lv_at hl 0 rfl) ?_
    refine lv_iload_n hx hb dX0_jump_14 rfl (lv_at hl 1 rfl) ?_
    refine lv_aload_n hx hb dX0_jump_15 rfl (lv_at hl 0 rfl) ?_
    refine va_get (D := (dC, dI)) (ci := 0) (v := .int st.2.2.2.1) (C := "PagedHart") (T := TX0) (N := 6) hx hb hts mU0 hown hK hP 0 rfl rfl 3 (by decide) (hts _ mF_0_20) (fun _ h9 => h9) rfl dX0_jump_16 ?_
    refine lv_iconst (v := 4) hx hb dX0_jump_19 (by decide) ?_
    refine lv_iadd hx hb dX0_jump_20 ?_
    refine gMv (As := [.int p1, .int (st.2.2.2.1 + (4 : Int32))]) (rest := []) (f := h_writeD st p1 (st.2.2.2.1 + (4 : Int32))) ⟨hx, hb, hml, hown, hts⟩ (ch_writeD l dC dI cI h0 qme0 qre1 qco2 tN tB H.size st p1 (st.2.2.2.1 + (4 : Int32))) (cwV 2 hts (gV mL_0_111 mI_0_writeD mX_0_writeD mN_0 mB_0_writeD) rfl rfl rfl (by decide +kernel) ⟨Nat.le_of_ble_eq_true rfl, Nat.le_of_ble_eq_true rfl⟩) hK hP hD hS hZ rfl hl.1 rfl (Nat.le_of_ble_eq_true rfl) dX0_jump_21 ⟨Nat.zero_le _, Nat.zero_le _⟩ (fun z2 ez2 H locs hP hD hS => ?_)
    have hP : va_P (dC, dI) vwCl (gW cI h0 qme0 qre1 qco2 z2) H := hP
    have hD : va_D (gA h0 qme0 qre1 qco2 s.heap.size) (gW cI h0 qme0 qre1 qco2 z2) := hD
    refine lv_aload_n hx hb dX0_jump_24 rfl (lv_at hl 0 rfl) ?_
    refine lv_iload_n hx hb dX0_jump_25 rfl (lv_at hl 2 rfl) ?_
    refine va_put (D := (dC, dI)) (ci := 0) (v := .int p2) (ty := .int) (C := "PagedHart") (T := TX0) (N := 6) hx hb hts mU0 tyX0 tyX0_ok nmX0 hown hK hP hD hS 0 rfl rfl 3 (by decide) (hts _ mF_0_20) (fun _ h9 => h9) rfl (by decide +kernel) rfl rfl (Nat.le_of_ble_eq_true rfl) dX0_jump_26 (fun H locs hP hD hS => ?_)
    have hP : va_P (dC, dI) vwCl (gW cI h0 qme0 qre1 qco2 (z2.1, z2.2.1, z2.2.2.1, p2, z2.2.2.2.2.1, z2.2.2.2.2.2)) H := hP
    have hD : va_D (gA h0 qme0 qre1 qco2 s.heap.size) (gW cI h0 qme0 qre1 qco2 (z2.1, z2.2.1, z2.2.2.1, p2, z2.2.2.2.2.1, z2.2.2.2.2.2)) := hD
    refine lv_iconst (v := 1) hx hb dX0_jump_29 (by decide) ?_
    exact gZret (v := 1) (u := (z2.1, z2.2.1, z2.2.2.1, p2, z2.2.2.2.2.1, z2.2.2.2.2.2)) hx hb hr hlocks rfl (by subst ez2; exact (((if_pos c1).trans rfl)).symm) hK hP hD hS dX0_jump_30
  · refine lv_aload_n hx hb dX0_jump_6 rfl (lv_at hl 0 rfl) ?_
    refine lv_iconst (v := 0) hx hb dX0_jump_7 (by decide) ?_
    refine lv_iload_n hx hb dX0_jump_8 rfl (lv_at hl 2 rfl) ?_
    refine gMi (As := [.int 0, .int p2]) (rest := []) (f := h_trap st (0 : Int32) p2) ⟨hx, hb, hml, hown, hts⟩ (ch_trap l dC dI cI h0 qme0 qre1 qco2 tN tB H.size st (0 : Int32) p2) (cwV 2 hts (gV mL_0_96 mI_0_trap mX_0_trap mN_0 mB_0_trap) rfl rfl rfl (by decide +kernel) ⟨Nat.le_of_ble_eq_true rfl, Nat.le_of_ble_eq_true rfl⟩) hK hP hD hS hZ rfl hl.1 rfl (Nat.le_of_ble_eq_true rfl) dX0_jump_9 ⟨Nat.zero_le _, Nat.zero_le _⟩ (fun z3 ez3 H locs hP hD hS => ?_)
    have hP : va_P (dC, dI) vwCl (gW cI h0 qme0 qre1 qco2 z3.2) H := hP
    have hD : va_D (gA h0 qme0 qre1 qco2 s.heap.size) (gW cI h0 qme0 qre1 qco2 z3.2) := hD
    exact gZret (v := z3.1) (u := z3.2) hx hb hr hlocks (jnb (by rw [ez3]; exact hb_trap st (0 : Int32) p2)) (by subst ez3; exact (((if_neg c1).trans rfl)).symm) hK hP hD hS dX0_jump_12
theorem hb_jump (st : HS) (p1 : Int32) (p2 : Int32) : (h_jump st p1 p2).1 = 0 ∨ (h_jump st p1 p2).1 = 1 := by
  unfold h_jump
  try dsimp only
  (repeat' split) <;> first | with_reducible exact hb_trap _ _ _ | with_reducible exact hb_refuse _ _ | with_reducible exact hb_goOn _ | with_reducible exact hb_goOnWith _ _ _ | exact Or.inl rfl | exact Or.inr rfl

def h_branch (st : HS) (p1 : Int32) : Int32 × HS :=
  let x1 : Int32 := h_fOf p1
  if x1 = (2 : Int32) then
    let z3 : Int32 × HS := h_refuse st p1
    z3
  else
    if x1 = (3 : Int32) then
      let z14 : Int32 × HS := h_refuse st p1
      z14
    else
      let x5 : Int32 := h_aOf st p1
      let x6 : Int32 := h_bOf st p1
      let x7 : Int32 := h_isTaken x1 x5 x6
      if x7 = 0 then
        let z13 : Int32 × HS := h_goOn st
        z13
      else
        let x9 : Int32 := h_branchDistance p1
        let x10 : Int32 := st.2.2.2.1 + x9
        if (x10 &&& (3 : Int32)) = 0 then
          ((1 : Int32), (st.1, st.2.1, st.2.2.1, x10, st.2.2.2.2.1, st.2.2.2.2.2))
        else
          let z12 : Int32 × HS := h_trap st (0 : Int32) x10
          z12
set_option maxHeartbeats 4000000 in
set_option maxRecDepth 100000 in
theorem ch_branch (l : Launch) (dC : Nat → ClassId) (dI : Nat → Nat → Nat) (cI h0 qme0 qre1 qco2 tN tB : Nat) (sz : Nat) (st : HS) (p1 : Int32)  : Met l yX0_branch (.code yX0_branch cX0_branch 4 (some .boolean) :: gBIG) ({ frames := 2, cells := 0, slots := 0, locals := 44 }) (va_Pc [.ref h0, .int p1] (gPre dC dI cI h0 qme0 qre1 qco2 tN tB sz st)) (va_Qi (fun r v => (r, v) = h_branch st p1) (gB dC dI cI h0 qme0 qre1 qco2 (gA h0 qme0 qre1 qco2 sz)) (gA h0 qme0 qre1 qco2 sz)) 0 0 (gA h0 qme0 qre1 qco2 sz) := by
  refine Met.ofW (cc := cX0_branch) (maxL := 4) (ret := (some .boolean)) (by decide) rfl ?_
  intro p e s m args below meth c s₁ B hml hv
  obtain ⟨rfl, hsz, hP, hK, hD0, hZ⟩ := hv
  have hx := B.exec
  have hb := B.bytes
  have hr := B.returns
  have hts : ∀ w ∈ gBIG, w.before _ s = true := fun w h => atoms_spec (ws := (.code yX0_branch cX0_branch 4 (some .boolean) :: gBIG)) B.pre w (List.mem_cons_of_mem _ h)
  have hown : s.vm.findClass "PagedHart" = some m.cls := findClass_of_methodNamed B.named
  have hlocks := B.notSynchronized
  subst hsz
  have hD : va_D (gA h0 qme0 qre1 qco2 s.heap.size) (gW cI h0 qme0 qre1 qco2 st) := gD hD0
  have hS : va_S (gA h0 qme0 qre1 qco2 s.heap.size) s.heap s.heap [] := va_S.rf
  have hP : va_P (dC, dI) vwCl (gW cI h0 qme0 qre1 qco2 st) s.heap := hP
  have hl := lv_entry ([.ref h0, .int p1]) (n := 4) (Nat.le_of_ble_eq_true rfl)
  rw [lg_entry_eq]
  generalize (lg_sl ([.ref h0, .int p1]) ++ List.replicate (4 - (lg_sl ([.ref h0, .int p1])).length) Slot.unset).toArray = ls at hl ⊢
  refine jgo (P := fun H locs => va_P (dC, dI) vwCl (gW cI h0 qme0 qre1 qco2 st) H ∧ va_S (gA h0 qme0 qre1 qco2 s.heap.size) s.heap H locs) ⟨hP, hS⟩ (fun H locs hPS => ?_)
  obtain ⟨hP, hS⟩ := hPS
  have hl : lv_has ls 4 [(0, .ref h0), (1, .int p1)] := hl
  refine lv_iload_n hx hb dX0_branch_0 rfl (lv_at hl 1 rfl) ?_
  refine W.callR (W.runS (As := [.int p1]) (rest := []) ⟨hx, hb, hml, hown, hts⟩ (ch_fOf l p1) (cwS 1 hts (gS mL_0_131 mS_0_fOf mN_0 mB_0_fOf) rfl rfl rfl (by decide +kernel) ⟨Nat.le_of_ble_eq_true rfl, Nat.le_of_ble_eq_true rfl⟩) ⟨jblind, fun _ _ _ => ⟨rfl, trivial⟩⟩ rfl rfl hl.1 rfl (lv_room (Nat.le_of_ble_eq_true rfl)) dX0_branch_1 ⟨Nat.zero_le _, Nat.zero_le _⟩) ?_
  refine W.eq (g2 := F0 m 4 ls (.int (h_fOf p1) :: [])) rfl ?_
  refine lv_topi (fun x1 ex1 => ?_)
  refine lv_istore_n (lv' := [(2, .int x1), (0, .ref h0), (1, .int p1)]) hx hb dX0_branch_4 rfl hl (by decide) rfl (fun ls hl => ?_)
  refine lv_iload_n hx hb dX0_branch_5 rfl (lv_at hl 0 rfl) ?_
  refine lv_iconst (v := 2) hx hb dX0_branch_6 (by decide) ?_
  refine lv_icmp_eq (tgt := 15) hx hb dX0_branch_7 (by decide) (fun c2 => ?_) (fun c2 => ?_)
  · refine lv_aload_n hx hb dX0_branch_15 rfl (lv_at hl 1 rfl) ?_
    refine lv_iload_n hx hb dX0_branch_16 rfl (lv_at hl 2 rfl) ?_
    refine gMi (As := [.int p1]) (rest := []) (f := h_refuse st p1) ⟨hx, hb, hml, hown, hts⟩ (ch_refuse l dC dI cI h0 qme0 qre1 qco2 tN tB H.size st p1) (cwV 1 hts (gV mL_0_140 mI_0_refuse mX_0_refuse mN_0 mB_0_refuse) rfl rfl rfl (by decide +kernel) ⟨Nat.le_of_ble_eq_true rfl, Nat.le_of_ble_eq_true rfl⟩) hK hP hD hS hZ rfl hl.1 rfl (Nat.le_of_ble_eq_true rfl) dX0_branch_17 ⟨Nat.zero_le _, Nat.zero_le _⟩ (fun z3 ez3 H locs hP hD hS => ?_)
    have hP : va_P (dC, dI) vwCl (gW cI h0 qme0 qre1 qco2 z3.2) H := hP
    have hD : va_D (gA h0 qme0 qre1 qco2 s.heap.size) (gW cI h0 qme0 qre1 qco2 z3.2) := hD
    exact gZret (v := z3.1) (u := z3.2) hx hb hr hlocks (jnb (by rw [ez3]; exact hb_refuse st p1)) (by subst ez3 ex1; exact (((if_pos c2).trans rfl)).symm) hK hP hD hS dX0_branch_20
  · refine lv_iload_n hx hb dX0_branch_10 rfl (lv_at hl 0 rfl) ?_
    refine lv_iconst (v := 3) hx hb dX0_branch_11 (by decide) ?_
    refine lv_icmp_ne (tgt := 21) hx hb dX0_branch_12 (by decide) (fun c4 => ?_) (fun c4 => ?_)
    · refine lv_iload_n hx hb dX0_branch_21 rfl (lv_at hl 0 rfl) ?_
      refine lv_aload_n hx hb dX0_branch_22 rfl (lv_at hl 1 rfl) ?_
      refine lv_iload_n hx hb dX0_branch_23 rfl (lv_at hl 2 rfl) ?_
      refine gR (As := [.int p1]) (rest := [.int x1]) (f := h_aOf st p1) ⟨hx, hb, hml, hown, hts⟩ (ch_aOf l dC dI cI h0 qme0 qre1 qco2 tN tB H.size st p1) (cwV 1 hts (gV mL_0_134 mI_0_aOf mX_0_aOf mN_0 mB_0_aOf) rfl rfl rfl (by decide +kernel) ⟨Nat.le_of_ble_eq_true rfl, Nat.le_of_ble_eq_true rfl⟩) hK hP hD hS hZ rfl hl.1 rfl (Nat.le_of_ble_eq_true rfl) dX0_branch_24 ⟨Nat.zero_le _, Nat.zero_le _⟩ ?_
      refine lv_topi (fun x5 ex5 => ?_)
      refine lv_aload_n hx hb dX0_branch_27 rfl (lv_at hl 1 rfl) ?_
      refine lv_iload_n hx hb dX0_branch_28 rfl (lv_at hl 2 rfl) ?_
      refine gR (As := [.int p1]) (rest := [.int x5, .int x1]) (f := h_bOf st p1) ⟨hx, hb, hml, hown, hts⟩ (ch_bOf l dC dI cI h0 qme0 qre1 qco2 tN tB H.size st p1) (cwV 1 hts (gV mL_0_161 mI_0_bOf mX_0_bOf mN_0 mB_0_bOf) rfl rfl rfl (by decide +kernel) ⟨Nat.le_of_ble_eq_true rfl, Nat.le_of_ble_eq_true rfl⟩) hK hP hD hS hZ rfl hl.1 rfl (Nat.le_of_ble_eq_true rfl) dX0_branch_29 ⟨Nat.zero_le _, Nat.zero_le _⟩ ?_
      refine lv_topi (fun x6 ex6 => ?_)
      refine W.callR (W.runS (As := [.int x1, .int x5, .int x6]) (rest := []) ⟨hx, hb, hml, hown, hts⟩ (ch_isTaken l x1 x5 x6) (cwS 3 hts (gS mL_0_164 mS_0_isTaken mN_0 mB_0_isTaken) rfl rfl rfl (by decide +kernel) ⟨Nat.le_of_ble_eq_true rfl, Nat.le_of_ble_eq_true rfl⟩) ⟨jblind, fun _ _ _ => ⟨rfl, trivial⟩⟩ rfl rfl hl.1 rfl (lv_room (Nat.le_of_ble_eq_true rfl)) dX0_branch_32 ⟨Nat.zero_le _, Nat.zero_le _⟩) ?_
      refine W.eq (g2 := F0 m 35 ls (.int (h_isTaken x1 x5 x6) :: [])) rfl ?_
      refine lv_topi (fun x7 ex7 => ?_)
      refine lv_if_ne (tgt := 43) hx hb dX0_branch_35 (by decide) (fun c8 => ?_) (fun c8 => ?_)
      · refine lv_aload_n hx hb dX0_branch_43 rfl (lv_at hl 1 rfl) ?_
        refine va_get (D := (dC, dI)) (ci := 0) (v := .int st.2.2.2.1) (C := "PagedHart") (T := TX0) (N := 6) hx hb hts mU0 hown hK hP 0 rfl rfl 3 (by decide) (hts _ mF_0_20) (fun _ h9 => h9) rfl dX0_branch_44 ?_
        refine lv_iload_n hx hb dX0_branch_47 rfl (lv_at hl 2 rfl) ?_
        refine W.callR (W.runS (As := [.int p1]) (rest := [.int st.2.2.2.1]) ⟨hx, hb, hml, hown, hts⟩ (ch_branchDistance l p1) (cwS 1 hts (gS mL_0_168 mS_0_branchDistance mN_0 mB_0_branchDistance) rfl rfl rfl (by decide +kernel) ⟨Nat.le_of_ble_eq_true rfl, Nat.le_of_ble_eq_true rfl⟩) ⟨jblind, fun _ _ _ => ⟨rfl, trivial⟩⟩ rfl rfl hl.1 rfl (lv_room (Nat.le_of_ble_eq_true rfl)) dX0_branch_48 ⟨Nat.zero_le _, Nat.zero_le _⟩) ?_
        refine W.eq (g2 := F0 m 51 ls (.int (h_branchDistance p1) :: [.int st.2.2.2.1])) rfl ?_
        refine lv_topi (fun x9 ex9 => ?_)
        refine lv_iadd hx hb dX0_branch_51 ?_
        refine lv_topi (fun x10 ex10 => ?_)
        refine lv_istore_n (lv' := [(3, .int x10), (2, .int x1), (0, .ref h0), (1, .int p1)]) hx hb dX0_branch_52 rfl hl (by decide) rfl (fun ls hl => ?_)
        refine lv_iload_n hx hb dX0_branch_53 rfl (lv_at hl 0 rfl) ?_
        refine lv_iconst (v := 3) hx hb dX0_branch_54 (by decide) ?_
        refine lv_iand hx hb dX0_branch_55 ?_
        refine lv_if_eq (tgt := 66) hx hb dX0_branch_56 (by decide) (fun c11 => ?_) (fun c11 => ?_)
        · refine lv_aload_n hx hb dX0_branch_66 rfl (lv_at hl 2 rfl) ?_
          refine lv_iload_n hx hb dX0_branch_67 rfl (lv_at hl 0 rfl) ?_
          refine va_put (D := (dC, dI)) (ci := 0) (v := .int x10) (ty := .int) (C := "PagedHart") (T := TX0) (N := 6) hx hb hts mU0 tyX0 tyX0_ok nmX0 hown hK hP hD hS 0 rfl rfl 3 (by decide) (hts _ mF_0_20) (fun _ h9 => h9) rfl (by decide +kernel) rfl rfl (Nat.le_of_ble_eq_true rfl) dX0_branch_68 (fun H locs hP hD hS => ?_)
          have hP : va_P (dC, dI) vwCl (gW cI h0 qme0 qre1 qco2 (st.1, st.2.1, st.2.2.1, x10, st.2.2.2.2.1, st.2.2.2.2.2)) H := hP
          have hD : va_D (gA h0 qme0 qre1 qco2 s.heap.size) (gW cI h0 qme0 qre1 qco2 (st.1, st.2.1, st.2.2.1, x10, st.2.2.2.2.1, st.2.2.2.2.2)) := hD
          refine lv_iconst (v := 1) hx hb dX0_branch_71 (by decide) ?_
          exact gZret (v := 1) (u := (st.1, st.2.1, st.2.2.1, x10, st.2.2.2.2.1, st.2.2.2.2.2)) hx hb hr hlocks rfl (by subst ex10 ex9 ex7 ex6 ex5 ex1; exact (((if_neg c2).trans ((if_neg c4).trans ((if_neg c8).trans ((if_pos c11).trans rfl))))).symm) hK hP hD hS dX0_branch_72
        · refine lv_aload_n hx hb dX0_branch_59 rfl (lv_at hl 2 rfl) ?_
          refine lv_iconst (v := 0) hx hb dX0_branch_60 (by decide) ?_
          refine lv_iload_n hx hb dX0_branch_61 rfl (lv_at hl 0 rfl) ?_
          refine gMi (As := [.int 0, .int x10]) (rest := []) (f := h_trap st (0 : Int32) x10) ⟨hx, hb, hml, hown, hts⟩ (ch_trap l dC dI cI h0 qme0 qre1 qco2 tN tB H.size st (0 : Int32) x10) (cwV 2 hts (gV mL_0_96 mI_0_trap mX_0_trap mN_0 mB_0_trap) rfl rfl rfl (by decide +kernel) ⟨Nat.le_of_ble_eq_true rfl, Nat.le_of_ble_eq_true rfl⟩) hK hP hD hS hZ rfl hl.1 rfl (Nat.le_of_ble_eq_true rfl) dX0_branch_62 ⟨Nat.zero_le _, Nat.zero_le _⟩ (fun z12 ez12 H locs hP hD hS => ?_)
          have hP : va_P (dC, dI) vwCl (gW cI h0 qme0 qre1 qco2 z12.2) H := hP
          have hD : va_D (gA h0 qme0 qre1 qco2 s.heap.size) (gW cI h0 qme0 qre1 qco2 z12.2) := hD
          exact gZret (v := z12.1) (u := z12.2) hx hb hr hlocks (jnb (by rw [ez12]; exact hb_trap st (0 : Int32) x10)) (by subst ez12 ex10 ex9 ex7 ex6 ex5 ex1; exact (((if_neg c2).trans ((if_neg c4).trans ((if_neg c8).trans ((if_neg c11).trans rfl))))).symm) hK hP hD hS dX0_branch_65
      · refine lv_aload_n hx hb dX0_branch_38 rfl (lv_at hl 1 rfl) ?_
        refine gMi (As := []) (rest := []) (f := h_goOn st) ⟨hx, hb, hml, hown, hts⟩ (ch_goOn l dC dI cI h0 qme0 qre1 qco2 tN tB H.size st ) (cwV 0 hts (gV mL_0_115 mI_0_goOn mX_0_goOn mN_0 mB_0_goOn) rfl rfl rfl (by decide +kernel) ⟨Nat.le_of_ble_eq_true rfl, Nat.le_of_ble_eq_true rfl⟩) hK hP hD hS hZ rfl hl.1 rfl (Nat.le_of_ble_eq_true rfl) dX0_branch_39 ⟨Nat.zero_le _, Nat.zero_le _⟩ (fun z13 ez13 H locs hP hD hS => ?_)
        have hP : va_P (dC, dI) vwCl (gW cI h0 qme0 qre1 qco2 z13.2) H := hP
        have hD : va_D (gA h0 qme0 qre1 qco2 s.heap.size) (gW cI h0 qme0 qre1 qco2 z13.2) := hD
        exact gZret (v := z13.1) (u := z13.2) hx hb hr hlocks (jnb (by rw [ez13]; exact hb_goOn st)) (by subst ez13 ex7 ex6 ex5 ex1; exact (((if_neg c2).trans ((if_neg c4).trans ((if_pos c8).trans rfl)))).symm) hK hP hD hS dX0_branch_42
    · refine lv_aload_n hx hb dX0_branch_15 rfl (lv_at hl 1 rfl) ?_
      refine lv_iload_n hx hb dX0_branch_16 rfl (lv_at hl 2 rfl) ?_
      refine gMi (As := [.int p1]) (rest := []) (f := h_refuse st p1) ⟨hx, hb, hml, hown, hts⟩ (ch_refuse l dC dI cI h0 qme0 qre1 qco2 tN tB H.size st p1) (cwV 1 hts (gV mL_0_140 mI_0_refuse mX_0_refuse mN_0 mB_0_refuse) rfl rfl rfl (by decide +kernel) ⟨Nat.le_of_ble_eq_true rfl, Nat.le_of_ble_eq_true rfl⟩) hK hP hD hS hZ rfl hl.1 rfl (Nat.le_of_ble_eq_true rfl) dX0_branch_17 ⟨Nat.zero_le _, Nat.zero_le _⟩ (fun z14 ez14 H locs hP hD hS => ?_)
      have hP : va_P (dC, dI) vwCl (gW cI h0 qme0 qre1 qco2 z14.2) H := hP
      have hD : va_D (gA h0 qme0 qre1 qco2 s.heap.size) (gW cI h0 qme0 qre1 qco2 z14.2) := hD
      exact gZret (v := z14.1) (u := z14.2) hx hb hr hlocks (jnb (by rw [ez14]; exact hb_refuse st p1)) (by subst ez14 ex1; exact (((if_neg c2).trans ((if_pos c4).trans rfl))).symm) hK hP hD hS dX0_branch_20
theorem hb_branch (st : HS) (p1 : Int32) : (h_branch st p1).1 = 0 ∨ (h_branch st p1).1 = 1 := by
  unfold h_branch
  try dsimp only
  (repeat' split) <;> first | with_reducible exact hb_trap _ _ _ | with_reducible exact hb_refuse _ _ | with_reducible exact hb_goOn _ | with_reducible exact hb_goOnWith _ _ _ | with_reducible exact hb_jump _ _ _ | exact Or.inl rfl | exact Or.inr rfl
