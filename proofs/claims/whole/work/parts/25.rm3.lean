def r_putControl (st : RS) (p1 : Int32) (p2 : Int32) : RS :=
  if p1 = 256 then
    (st.1, st.2.1, st.2.2.1, st.2.2.2.1, st.2.2.2.2.1, p2 &&& (262400 : Int32), st.2.2.2.2.2.2.1, st.2.2.2.2.2.2.2.1, st.2.2.2.2.2.2.2.2.1, st.2.2.2.2.2.2.2.2.2.1, st.2.2.2.2.2.2.2.2.2.2.1, st.2.2.2.2.2.2.2.2.2.2.2.1, st.2.2.2.2.2.2.2.2.2.2.2.2.1, st.2.2.2.2.2.2.2.2.2.2.2.2.2.1, st.2.2.2.2.2.2.2.2.2.2.2.2.2.2.1, st.2.2.2.2.2.2.2.2.2.2.2.2.2.2.2.1, st.2.2.2.2.2.2.2.2.2.2.2.2.2.2.2.2.1, st.2.2.2.2.2.2.2.2.2.2.2.2.2.2.2.2.2)
  else
    if p1 = 261 then
      let x3 : Int32 := r_bits p2 (0 : Int32) (1 : Int32)
      (st.1, st.2.1, st.2.2.1, st.2.2.2.1, st.2.2.2.2.1, st.2.2.2.2.2.1, p2 - x3, st.2.2.2.2.2.2.2.1, st.2.2.2.2.2.2.2.2.1, st.2.2.2.2.2.2.2.2.2.1, st.2.2.2.2.2.2.2.2.2.2.1, st.2.2.2.2.2.2.2.2.2.2.2.1, st.2.2.2.2.2.2.2.2.2.2.2.2.1, st.2.2.2.2.2.2.2.2.2.2.2.2.2.1, st.2.2.2.2.2.2.2.2.2.2.2.2.2.2.1, st.2.2.2.2.2.2.2.2.2.2.2.2.2.2.2.1, st.2.2.2.2.2.2.2.2.2.2.2.2.2.2.2.2.1, st.2.2.2.2.2.2.2.2.2.2.2.2.2.2.2.2.2)
    else
      if p1 = 320 then
        (st.1, st.2.1, st.2.2.1, st.2.2.2.1, st.2.2.2.2.1, st.2.2.2.2.2.1, st.2.2.2.2.2.2.1, p2, st.2.2.2.2.2.2.2.2.1, st.2.2.2.2.2.2.2.2.2.1, st.2.2.2.2.2.2.2.2.2.2.1, st.2.2.2.2.2.2.2.2.2.2.2.1, st.2.2.2.2.2.2.2.2.2.2.2.2.1, st.2.2.2.2.2.2.2.2.2.2.2.2.2.1, st.2.2.2.2.2.2.2.2.2.2.2.2.2.2.1, st.2.2.2.2.2.2.2.2.2.2.2.2.2.2.2.1, st.2.2.2.2.2.2.2.2.2.2.2.2.2.2.2.2.1, st.2.2.2.2.2.2.2.2.2.2.2.2.2.2.2.2.2)
      else
        if p1 = 321 then
          let x6 : Int32 := r_bits p2 (0 : Int32) (1 : Int32)
          (st.1, st.2.1, st.2.2.1, st.2.2.2.1, st.2.2.2.2.1, st.2.2.2.2.2.1, st.2.2.2.2.2.2.1, st.2.2.2.2.2.2.2.1, p2 - x6, st.2.2.2.2.2.2.2.2.2.1, st.2.2.2.2.2.2.2.2.2.2.1, st.2.2.2.2.2.2.2.2.2.2.2.1, st.2.2.2.2.2.2.2.2.2.2.2.2.1, st.2.2.2.2.2.2.2.2.2.2.2.2.2.1, st.2.2.2.2.2.2.2.2.2.2.2.2.2.2.1, st.2.2.2.2.2.2.2.2.2.2.2.2.2.2.2.1, st.2.2.2.2.2.2.2.2.2.2.2.2.2.2.2.2.1, st.2.2.2.2.2.2.2.2.2.2.2.2.2.2.2.2.2)
        else
          if p1 = 322 then
            (st.1, st.2.1, st.2.2.1, st.2.2.2.1, st.2.2.2.2.1, st.2.2.2.2.2.1, st.2.2.2.2.2.2.1, st.2.2.2.2.2.2.2.1, st.2.2.2.2.2.2.2.2.1, p2, st.2.2.2.2.2.2.2.2.2.2.1, st.2.2.2.2.2.2.2.2.2.2.2.1, st.2.2.2.2.2.2.2.2.2.2.2.2.1, st.2.2.2.2.2.2.2.2.2.2.2.2.2.1, st.2.2.2.2.2.2.2.2.2.2.2.2.2.2.1, st.2.2.2.2.2.2.2.2.2.2.2.2.2.2.2.1, st.2.2.2.2.2.2.2.2.2.2.2.2.2.2.2.2.1, st.2.2.2.2.2.2.2.2.2.2.2.2.2.2.2.2.2)
          else
            if p1 = 323 then
              (st.1, st.2.1, st.2.2.1, st.2.2.2.1, st.2.2.2.2.1, st.2.2.2.2.2.1, st.2.2.2.2.2.2.1, st.2.2.2.2.2.2.2.1, st.2.2.2.2.2.2.2.2.1, st.2.2.2.2.2.2.2.2.2.1, p2, st.2.2.2.2.2.2.2.2.2.2.2.1, st.2.2.2.2.2.2.2.2.2.2.2.2.1, st.2.2.2.2.2.2.2.2.2.2.2.2.2.1, st.2.2.2.2.2.2.2.2.2.2.2.2.2.2.1, st.2.2.2.2.2.2.2.2.2.2.2.2.2.2.2.1, st.2.2.2.2.2.2.2.2.2.2.2.2.2.2.2.2.1, st.2.2.2.2.2.2.2.2.2.2.2.2.2.2.2.2.2)
            else
              if p1 = 384 then
                (st.1, st.2.1, st.2.2.1, st.2.2.2.1, st.2.2.2.2.1, st.2.2.2.2.2.1, st.2.2.2.2.2.2.1, st.2.2.2.2.2.2.2.1, st.2.2.2.2.2.2.2.2.1, st.2.2.2.2.2.2.2.2.2.1, st.2.2.2.2.2.2.2.2.2.2.1, p2, st.2.2.2.2.2.2.2.2.2.2.2.2.1, st.2.2.2.2.2.2.2.2.2.2.2.2.2.1, st.2.2.2.2.2.2.2.2.2.2.2.2.2.2.1, st.2.2.2.2.2.2.2.2.2.2.2.2.2.2.2.1, st.2.2.2.2.2.2.2.2.2.2.2.2.2.2.2.2.1, st.2.2.2.2.2.2.2.2.2.2.2.2.2.2.2.2.2)
              else
                if p1 = 1472 then
                  (st.1, st.2.1, st.2.2.1, st.2.2.2.1, st.2.2.2.2.1, st.2.2.2.2.2.1, st.2.2.2.2.2.2.1, st.2.2.2.2.2.2.2.1, st.2.2.2.2.2.2.2.2.1, st.2.2.2.2.2.2.2.2.2.1, st.2.2.2.2.2.2.2.2.2.2.1, st.2.2.2.2.2.2.2.2.2.2.2.1, p2, st.2.2.2.2.2.2.2.2.2.2.2.2.2.1, st.2.2.2.2.2.2.2.2.2.2.2.2.2.2.1, st.2.2.2.2.2.2.2.2.2.2.2.2.2.2.2.1, st.2.2.2.2.2.2.2.2.2.2.2.2.2.2.2.2.1, st.2.2.2.2.2.2.2.2.2.2.2.2.2.2.2.2.2)
                else
                  (st.1, st.2.1, st.2.2.1, st.2.2.2.1, st.2.2.2.2.1, st.2.2.2.2.2.1, st.2.2.2.2.2.2.1, st.2.2.2.2.2.2.2.1, st.2.2.2.2.2.2.2.2.1, st.2.2.2.2.2.2.2.2.2.1, st.2.2.2.2.2.2.2.2.2.2.1, st.2.2.2.2.2.2.2.2.2.2.2.1, st.2.2.2.2.2.2.2.2.2.2.2.2.1, p2, st.2.2.2.2.2.2.2.2.2.2.2.2.2.2.1, st.2.2.2.2.2.2.2.2.2.2.2.2.2.2.2.1, st.2.2.2.2.2.2.2.2.2.2.2.2.2.2.2.2.1, st.2.2.2.2.2.2.2.2.2.2.2.2.2.2.2.2.2)
set_option maxHeartbeats 4000000 in
set_option maxRecDepth 100000 in
theorem cr_putControl (l : Launch) (dC : Nat → ClassId) (dI : Nat → Nat → Nat) (cI h0 qme0 qre1 tN tB : Nat) (sz : Nat) (st : RS) (p1 : Int32) (p2 : Int32)  : Met l yX1_putControl (.code yX1_putControl cX1_putControl 3 none :: gBIG) ({ frames := 2, cells := 0, slots := 0, locals := 42 }) (va_Pc [.ref h0, .int p1, .int p2] (rPre dC dI cI h0 qme0 qre1 tN tB sz st)) (va_Qv (fun v => v = r_putControl st p1 p2) (rB dC dI cI h0 qme0 qre1 (rA h0 qme0 qre1 sz)) (rA h0 qme0 qre1 sz)) 0 0 (rA h0 qme0 qre1 sz) := by
  refine Met.ofW (cc := cX1_putControl) (maxL := 3) (ret := none) (by decide) rfl ?_
  intro p e s m args below meth c s₁ B hml hv
  obtain ⟨rfl, hsz, hP, hK, hD0, hZ⟩ := hv
  have hx := B.exec
  have hb := B.bytes
  have hr := B.returns
  have hts : ∀ w ∈ gBIG, w.before _ s = true := fun w h => atoms_spec (ws := (.code yX1_putControl cX1_putControl 3 none :: gBIG)) B.pre w (List.mem_cons_of_mem _ h)
  have hown : s.vm.findClass "PagedHartModel" = some m.cls := findClass_of_methodNamed B.named
  have hlocks := B.notSynchronized
  subst hsz
  have hD : va_D (rA h0 qme0 qre1 s.heap.size) (rW cI h0 qme0 qre1 st) := rD hD0
  have hS : va_S (rA h0 qme0 qre1 s.heap.size) s.heap s.heap [] := va_S.rf
  have hP : va_P (dC, dI) vwCl (rW cI h0 qme0 qre1 st) s.heap := hP
  have hl := lv_entry ([.ref h0, .int p1, .int p2]) (n := 3) (Nat.le_of_ble_eq_true rfl)
  rw [lg_entry_eq]
  generalize (lg_sl ([.ref h0, .int p1, .int p2]) ++ List.replicate (3 - (lg_sl ([.ref h0, .int p1, .int p2])).length) Slot.unset).toArray = ls at hl ⊢
  refine jgo (P := fun H locs => va_P (dC, dI) vwCl (rW cI h0 qme0 qre1 st) H ∧ va_S (rA h0 qme0 qre1 s.heap.size) s.heap H locs) ⟨hP, hS⟩ (fun H locs hPS => ?_)
  obtain ⟨hP, hS⟩ := hPS
  have hl : lv_has ls 3 [(0, .ref h0), (1, .int p1), (2, .int p2)] := hl
  refine lv_iload_n hx hb dX1_putControl_0 rfl (lv_at hl 1 rfl) ?_
  by_cases c1 : p1 = 256
  · refine lv_lookup (tgt := 76) (off := 75) hx hb dX1_putControl_1 (by decide) (by rw [c1]; decide) (by decide) ?_
    refine lv_aload_n hx hb dX1_putControl_76 rfl (lv_at hl 0 rfl) ?_
    refine lv_iload_n hx hb dX1_putControl_77 rfl (lv_at hl 2 rfl) ?_
    refine lv_ldc (v := 262400) hx hb hown (hts _ mC_1_181) dX1_putControl_78 ?_
    refine lv_iand hx hb dX1_putControl_80 ?_
    refine va_put (D := (dC, dI)) (ci := 1) (v := .int (p2 &&& (262400 : Int32))) (ty := .int) (C := "PagedHartModel") (T := TX1) (N := 18) hx hb hts mU1 tyX1 tyX1_ok nmX1 hown hK hP hD hS 0 rfl rfl 5 (by decide) (hts _ mF_1_50) (fun _ h9 => h9) rfl (by decide +kernel) rfl rfl (Nat.le_of_ble_eq_true rfl) dX1_putControl_81 (fun H locs hP hD hS => ?_)
    have hP : va_P (dC, dI) vwCl (rW cI h0 qme0 qre1 (st.1, st.2.1, st.2.2.1, st.2.2.2.1, st.2.2.2.2.1, p2 &&& (262400 : Int32), st.2.2.2.2.2.2.1, st.2.2.2.2.2.2.2.1, st.2.2.2.2.2.2.2.2.1, st.2.2.2.2.2.2.2.2.2.1, st.2.2.2.2.2.2.2.2.2.2.1, st.2.2.2.2.2.2.2.2.2.2.2.1, st.2.2.2.2.2.2.2.2.2.2.2.2.1, st.2.2.2.2.2.2.2.2.2.2.2.2.2.1, st.2.2.2.2.2.2.2.2.2.2.2.2.2.2.1, st.2.2.2.2.2.2.2.2.2.2.2.2.2.2.2.1, st.2.2.2.2.2.2.2.2.2.2.2.2.2.2.2.2.1, st.2.2.2.2.2.2.2.2.2.2.2.2.2.2.2.2.2)) H := hP
    have hD : va_D (rA h0 qme0 qre1 s.heap.size) (rW cI h0 qme0 qre1 (st.1, st.2.1, st.2.2.1, st.2.2.2.1, st.2.2.2.2.1, p2 &&& (262400 : Int32), st.2.2.2.2.2.2.1, st.2.2.2.2.2.2.2.1, st.2.2.2.2.2.2.2.2.1, st.2.2.2.2.2.2.2.2.2.1, st.2.2.2.2.2.2.2.2.2.2.1, st.2.2.2.2.2.2.2.2.2.2.2.1, st.2.2.2.2.2.2.2.2.2.2.2.2.1, st.2.2.2.2.2.2.2.2.2.2.2.2.2.1, st.2.2.2.2.2.2.2.2.2.2.2.2.2.2.1, st.2.2.2.2.2.2.2.2.2.2.2.2.2.2.2.1, st.2.2.2.2.2.2.2.2.2.2.2.2.2.2.2.2.1, st.2.2.2.2.2.2.2.2.2.2.2.2.2.2.2.2.2)) := hD
    refine lv_goto (tgt := 162) hx hb dX1_putControl_84 (by decide) ?_
    exact rVret (u := (st.1, st.2.1, st.2.2.1, st.2.2.2.1, st.2.2.2.2.1, p2 &&& (262400 : Int32), st.2.2.2.2.2.2.1, st.2.2.2.2.2.2.2.1, st.2.2.2.2.2.2.2.2.1, st.2.2.2.2.2.2.2.2.2.1, st.2.2.2.2.2.2.2.2.2.2.1, st.2.2.2.2.2.2.2.2.2.2.2.1, st.2.2.2.2.2.2.2.2.2.2.2.2.1, st.2.2.2.2.2.2.2.2.2.2.2.2.2.1, st.2.2.2.2.2.2.2.2.2.2.2.2.2.2.1, st.2.2.2.2.2.2.2.2.2.2.2.2.2.2.2.1, st.2.2.2.2.2.2.2.2.2.2.2.2.2.2.2.2.1, st.2.2.2.2.2.2.2.2.2.2.2.2.2.2.2.2.2)) hx hb hr hlocks (by exact (((if_pos c1).trans rfl)).symm) hK hP hD hS dX1_putControl_162
  by_cases c2 : p1 = 261
  · refine lv_lookup (tgt := 87) (off := 86) hx hb dX1_putControl_1 (by decide) (by rw [c2]; decide) (by decide) ?_
    refine lv_aload_n hx hb dX1_putControl_87 rfl (lv_at hl 0 rfl) ?_
    refine lv_iload_n hx hb dX1_putControl_88 rfl (lv_at hl 2 rfl) ?_
    refine lv_iload_n hx hb dX1_putControl_89 rfl (lv_at hl 2 rfl) ?_
    refine lv_iconst (v := 0) hx hb dX1_putControl_90 (by decide) ?_
    refine lv_iconst (v := 1) hx hb dX1_putControl_91 (by decide) ?_
    refine W.callR (W.runS (As := [.int p2, .int 0, .int 1]) (rest := [.int p2, .ref h0]) ⟨hx, hb, hml, hown, hts⟩ (cr_bits l p2 (0 : Int32) (1 : Int32)) (cwS 3 hts (gS mL_1_46 mS_1_bits mN_1 mB_1_bits) rfl rfl rfl (by decide +kernel) ⟨Nat.le_of_ble_eq_true rfl, Nat.le_of_ble_eq_true rfl⟩) ⟨jblind, fun _ _ _ => ⟨rfl, trivial⟩⟩ rfl rfl hl.1 rfl (lv_room (Nat.le_of_ble_eq_true rfl)) dX1_putControl_92 ⟨Nat.zero_le _, Nat.zero_le _⟩) ?_
    refine W.eq (g2 := F0 m 95 ls (.int (r_bits p2 (0 : Int32) (1 : Int32)) :: [.int p2, .ref h0])) rfl ?_
    refine lv_topi (fun x3 ex3 => ?_)
    refine lv_isub hx hb dX1_putControl_95 ?_
    refine va_put (D := (dC, dI)) (ci := 1) (v := .int (p2 - x3)) (ty := .int) (C := "PagedHartModel") (T := TX1) (N := 18) hx hb hts mU1 tyX1 tyX1_ok nmX1 hown hK hP hD hS 0 rfl rfl 6 (by decide) (hts _ mF_1_87) (fun _ h9 => h9) rfl (by decide +kernel) rfl rfl (Nat.le_of_ble_eq_true rfl) dX1_putControl_96 (fun H locs hP hD hS => ?_)
    have hP : va_P (dC, dI) vwCl (rW cI h0 qme0 qre1 (st.1, st.2.1, st.2.2.1, st.2.2.2.1, st.2.2.2.2.1, st.2.2.2.2.2.1, p2 - x3, st.2.2.2.2.2.2.2.1, st.2.2.2.2.2.2.2.2.1, st.2.2.2.2.2.2.2.2.2.1, st.2.2.2.2.2.2.2.2.2.2.1, st.2.2.2.2.2.2.2.2.2.2.2.1, st.2.2.2.2.2.2.2.2.2.2.2.2.1, st.2.2.2.2.2.2.2.2.2.2.2.2.2.1, st.2.2.2.2.2.2.2.2.2.2.2.2.2.2.1, st.2.2.2.2.2.2.2.2.2.2.2.2.2.2.2.1, st.2.2.2.2.2.2.2.2.2.2.2.2.2.2.2.2.1, st.2.2.2.2.2.2.2.2.2.2.2.2.2.2.2.2.2)) H := hP
    have hD : va_D (rA h0 qme0 qre1 s.heap.size) (rW cI h0 qme0 qre1 (st.1, st.2.1, st.2.2.1, st.2.2.2.1, st.2.2.2.2.1, st.2.2.2.2.2.1, p2 - x3, st.2.2.2.2.2.2.2.1, st.2.2.2.2.2.2.2.2.1, st.2.2.2.2.2.2.2.2.2.1, st.2.2.2.2.2.2.2.2.2.2.1, st.2.2.2.2.2.2.2.2.2.2.2.1, st.2.2.2.2.2.2.2.2.2.2.2.2.1, st.2.2.2.2.2.2.2.2.2.2.2.2.2.1, st.2.2.2.2.2.2.2.2.2.2.2.2.2.2.1, st.2.2.2.2.2.2.2.2.2.2.2.2.2.2.2.1, st.2.2.2.2.2.2.2.2.2.2.2.2.2.2.2.2.1, st.2.2.2.2.2.2.2.2.2.2.2.2.2.2.2.2.2)) := hD
    refine lv_goto (tgt := 162) hx hb dX1_putControl_99 (by decide) ?_
    exact rVret (u := (st.1, st.2.1, st.2.2.1, st.2.2.2.1, st.2.2.2.2.1, st.2.2.2.2.2.1, p2 - x3, st.2.2.2.2.2.2.2.1, st.2.2.2.2.2.2.2.2.1, st.2.2.2.2.2.2.2.2.2.1, st.2.2.2.2.2.2.2.2.2.2.1, st.2.2.2.2.2.2.2.2.2.2.2.1, st.2.2.2.2.2.2.2.2.2.2.2.2.1, st.2.2.2.2.2.2.2.2.2.2.2.2.2.1, st.2.2.2.2.2.2.2.2.2.2.2.2.2.2.1, st.2.2.2.2.2.2.2.2.2.2.2.2.2.2.2.1, st.2.2.2.2.2.2.2.2.2.2.2.2.2.2.2.2.1, st.2.2.2.2.2.2.2.2.2.2.2.2.2.2.2.2.2)) hx hb hr hlocks (by subst ex3; exact (((if_neg c1).trans ((if_pos c2).trans rfl))).symm) hK hP hD hS dX1_putControl_162
  by_cases c4 : p1 = 320
  · refine lv_lookup (tgt := 102) (off := 101) hx hb dX1_putControl_1 (by decide) (by rw [c4]; decide) (by decide) ?_
    refine lv_aload_n hx hb dX1_putControl_102 rfl (lv_at hl 0 rfl) ?_
    refine lv_iload_n hx hb dX1_putControl_103 rfl (lv_at hl 2 rfl) ?_
    refine va_put (D := (dC, dI)) (ci := 1) (v := .int p2) (ty := .int) (C := "PagedHartModel") (T := TX1) (N := 18) hx hb hts mU1 tyX1 tyX1_ok nmX1 hown hK hP hD hS 0 rfl rfl 7 (by decide) (hts _ mF_1_178) (fun _ h9 => h9) rfl (by decide +kernel) rfl rfl (Nat.le_of_ble_eq_true rfl) dX1_putControl_104 (fun H locs hP hD hS => ?_)
    have hP : va_P (dC, dI) vwCl (rW cI h0 qme0 qre1 (st.1, st.2.1, st.2.2.1, st.2.2.2.1, st.2.2.2.2.1, st.2.2.2.2.2.1, st.2.2.2.2.2.2.1, p2, st.2.2.2.2.2.2.2.2.1, st.2.2.2.2.2.2.2.2.2.1, st.2.2.2.2.2.2.2.2.2.2.1, st.2.2.2.2.2.2.2.2.2.2.2.1, st.2.2.2.2.2.2.2.2.2.2.2.2.1, st.2.2.2.2.2.2.2.2.2.2.2.2.2.1, st.2.2.2.2.2.2.2.2.2.2.2.2.2.2.1, st.2.2.2.2.2.2.2.2.2.2.2.2.2.2.2.1, st.2.2.2.2.2.2.2.2.2.2.2.2.2.2.2.2.1, st.2.2.2.2.2.2.2.2.2.2.2.2.2.2.2.2.2)) H := hP
    have hD : va_D (rA h0 qme0 qre1 s.heap.size) (rW cI h0 qme0 qre1 (st.1, st.2.1, st.2.2.1, st.2.2.2.1, st.2.2.2.2.1, st.2.2.2.2.2.1, st.2.2.2.2.2.2.1, p2, st.2.2.2.2.2.2.2.2.1, st.2.2.2.2.2.2.2.2.2.1, st.2.2.2.2.2.2.2.2.2.2.1, st.2.2.2.2.2.2.2.2.2.2.2.1, st.2.2.2.2.2.2.2.2.2.2.2.2.1, st.2.2.2.2.2.2.2.2.2.2.2.2.2.1, st.2.2.2.2.2.2.2.2.2.2.2.2.2.2.1, st.2.2.2.2.2.2.2.2.2.2.2.2.2.2.2.1, st.2.2.2.2.2.2.2.2.2.2.2.2.2.2.2.2.1, st.2.2.2.2.2.2.2.2.2.2.2.2.2.2.2.2.2)) := hD
    refine lv_goto (tgt := 162) hx hb dX1_putControl_107 (by decide) ?_
    exact rVret (u := (st.1, st.2.1, st.2.2.1, st.2.2.2.1, st.2.2.2.2.1, st.2.2.2.2.2.1, st.2.2.2.2.2.2.1, p2, st.2.2.2.2.2.2.2.2.1, st.2.2.2.2.2.2.2.2.2.1, st.2.2.2.2.2.2.2.2.2.2.1, st.2.2.2.2.2.2.2.2.2.2.2.1, st.2.2.2.2.2.2.2.2.2.2.2.2.1, st.2.2.2.2.2.2.2.2.2.2.2.2.2.1, st.2.2.2.2.2.2.2.2.2.2.2.2.2.2.1, st.2.2.2.2.2.2.2.2.2.2.2.2.2.2.2.1, st.2.2.2.2.2.2.2.2.2.2.2.2.2.2.2.2.1, st.2.2.2.2.2.2.2.2.2.2.2.2.2.2.2.2.2)) hx hb hr hlocks (by exact (((if_neg c1).trans ((if_neg c2).trans ((if_pos c4).trans rfl)))).symm) hK hP hD hS dX1_putControl_162
  by_cases c5 : p1 = 321
  · refine lv_lookup (tgt := 110) (off := 109) hx hb dX1_putControl_1 (by decide) (by rw [c5]; decide) (by decide) ?_
    refine lv_aload_n hx hb dX1_putControl_110 rfl (lv_at hl 0 rfl) ?_
    refine lv_iload_n hx hb dX1_putControl_111 rfl (lv_at hl 2 rfl) ?_
    refine lv_iload_n hx hb dX1_putControl_112 rfl (lv_at hl 2 rfl) ?_
    refine lv_iconst (v := 0) hx hb dX1_putControl_113 (by decide) ?_
    refine lv_iconst (v := 1) hx hb dX1_putControl_114 (by decide) ?_
    refine W.callR (W.runS (As := [.int p2, .int 0, .int 1]) (rest := [.int p2, .ref h0]) ⟨hx, hb, hml, hown, hts⟩ (cr_bits l p2 (0 : Int32) (1 : Int32)) (cwS 3 hts (gS mL_1_46 mS_1_bits mN_1 mB_1_bits) rfl rfl rfl (by decide +kernel) ⟨Nat.le_of_ble_eq_true rfl, Nat.le_of_ble_eq_true rfl⟩) ⟨jblind, fun _ _ _ => ⟨rfl, trivial⟩⟩ rfl rfl hl.1 rfl (lv_room (Nat.le_of_ble_eq_true rfl)) dX1_putControl_115 ⟨Nat.zero_le _, Nat.zero_le _⟩) ?_
    refine W.eq (g2 := F0 m 118 ls (.int (r_bits p2 (0 : Int32) (1 : Int32)) :: [.int p2, .ref h0])) rfl ?_
    refine lv_topi (fun x6 ex6 => ?_)
    refine lv_isub hx hb dX1_putControl_118 ?_
    refine va_put (D := (dC, dI)) (ci := 1) (v := .int (p2 - x6)) (ty := .int) (C := "PagedHartModel") (T := TX1) (N := 18) hx hb hts mU1 tyX1 tyX1_ok nmX1 hown hK hP hD hS 0 rfl rfl 8 (by decide) (hts _ mF_1_78) (fun _ h9 => h9) rfl (by decide +kernel) rfl rfl (Nat.le_of_ble_eq_true rfl) dX1_putControl_119 (fun H locs hP hD hS => ?_)
    have hP : va_P (dC, dI) vwCl (rW cI h0 qme0 qre1 (st.1, st.2.1, st.2.2.1, st.2.2.2.1, st.2.2.2.2.1, st.2.2.2.2.2.1, st.2.2.2.2.2.2.1, st.2.2.2.2.2.2.2.1, p2 - x6, st.2.2.2.2.2.2.2.2.2.1, st.2.2.2.2.2.2.2.2.2.2.1, st.2.2.2.2.2.2.2.2.2.2.2.1, st.2.2.2.2.2.2.2.2.2.2.2.2.1, st.2.2.2.2.2.2.2.2.2.2.2.2.2.1, st.2.2.2.2.2.2.2.2.2.2.2.2.2.2.1, st.2.2.2.2.2.2.2.2.2.2.2.2.2.2.2.1, st.2.2.2.2.2.2.2.2.2.2.2.2.2.2.2.2.1, st.2.2.2.2.2.2.2.2.2.2.2.2.2.2.2.2.2)) H := hP
    have hD : va_D (rA h0 qme0 qre1 s.heap.size) (rW cI h0 qme0 qre1 (st.1, st.2.1, st.2.2.1, st.2.2.2.1, st.2.2.2.2.1, st.2.2.2.2.2.1, st.2.2.2.2.2.2.1, st.2.2.2.2.2.2.2.1, p2 - x6, st.2.2.2.2.2.2.2.2.2.1, st.2.2.2.2.2.2.2.2.2.2.1, st.2.2.2.2.2.2.2.2.2.2.2.1, st.2.2.2.2.2.2.2.2.2.2.2.2.1, st.2.2.2.2.2.2.2.2.2.2.2.2.2.1, st.2.2.2.2.2.2.2.2.2.2.2.2.2.2.1, st.2.2.2.2.2.2.2.2.2.2.2.2.2.2.2.1, st.2.2.2.2.2.2.2.2.2.2.2.2.2.2.2.2.1, st.2.2.2.2.2.2.2.2.2.2.2.2.2.2.2.2.2)) := hD
    refine lv_goto (tgt := 162) hx hb dX1_putControl_122 (by decide) ?_
    exact rVret (u := (st.1, st.2.1, st.2.2.1, st.2.2.2.1, st.2.2.2.2.1, st.2.2.2.2.2.1, st.2.2.2.2.2.2.1, st.2.2.2.2.2.2.2.1, p2 - x6, st.2.2.2.2.2.2.2.2.2.1, st.2.2.2.2.2.2.2.2.2.2.1, st.2.2.2.2.2.2.2.2.2.2.2.1, st.2.2.2.2.2.2.2.2.2.2.2.2.1, st.2.2.2.2.2.2.2.2.2.2.2.2.2.1, st.2.2.2.2.2.2.2.2.2.2.2.2.2.2.1, st.2.2.2.2.2.2.2.2.2.2.2.2.2.2.2.1, st.2.2.2.2.2.2.2.2.2.2.2.2.2.2.2.2.1, st.2.2.2.2.2.2.2.2.2.2.2.2.2.2.2.2.2)) hx hb hr hlocks (by subst ex6; exact (((if_neg c1).trans ((if_neg c2).trans ((if_neg c4).trans ((if_pos c5).trans rfl))))).symm) hK hP hD hS dX1_putControl_162
  by_cases c7 : p1 = 322
  · refine lv_lookup (tgt := 125) (off := 124) hx hb dX1_putControl_1 (by decide) (by rw [c7]; decide) (by decide) ?_
    refine lv_aload_n hx hb dX1_putControl_125 rfl (lv_at hl 0 rfl) ?_
    refine lv_iload_n hx hb dX1_putControl_126 rfl (lv_at hl 2 rfl) ?_
    refine va_put (D := (dC, dI)) (ci := 1) (v := .int p2) (ty := .int) (C := "PagedHartModel") (T := TX1) (N := 18) hx hb hts mU1 tyX1 tyX1_ok nmX1 hown hK hP hD hS 0 rfl rfl 9 (by decide) (hts _ mF_1_81) (fun _ h9 => h9) rfl (by decide +kernel) rfl rfl (Nat.le_of_ble_eq_true rfl) dX1_putControl_127 (fun H locs hP hD hS => ?_)
    have hP : va_P (dC, dI) vwCl (rW cI h0 qme0 qre1 (st.1, st.2.1, st.2.2.1, st.2.2.2.1, st.2.2.2.2.1, st.2.2.2.2.2.1, st.2.2.2.2.2.2.1, st.2.2.2.2.2.2.2.1, st.2.2.2.2.2.2.2.2.1, p2, st.2.2.2.2.2.2.2.2.2.2.1, st.2.2.2.2.2.2.2.2.2.2.2.1, st.2.2.2.2.2.2.2.2.2.2.2.2.1, st.2.2.2.2.2.2.2.2.2.2.2.2.2.1, st.2.2.2.2.2.2.2.2.2.2.2.2.2.2.1, st.2.2.2.2.2.2.2.2.2.2.2.2.2.2.2.1, st.2.2.2.2.2.2.2.2.2.2.2.2.2.2.2.2.1, st.2.2.2.2.2.2.2.2.2.2.2.2.2.2.2.2.2)) H := hP
    have hD : va_D (rA h0 qme0 qre1 s.heap.size) (rW cI h0 qme0 qre1 (st.1, st.2.1, st.2.2.1, st.2.2.2.1, st.2.2.2.2.1, st.2.2.2.2.2.1, st.2.2.2.2.2.2.1, st.2.2.2.2.2.2.2.1, st.2.2.2.2.2.2.2.2.1, p2, st.2.2.2.2.2.2.2.2.2.2.1, st.2.2.2.2.2.2.2.2.2.2.2.1, st.2.2.2.2.2.2.2.2.2.2.2.2.1, st.2.2.2.2.2.2.2.2.2.2.2.2.2.1, st.2.2.2.2.2.2.2.2.2.2.2.2.2.2.1, st.2.2.2.2.2.2.2.2.2.2.2.2.2.2.2.1, st.2.2.2.2.2.2.2.2.2.2.2.2.2.2.2.2.1, st.2.2.2.2.2.2.2.2.2.2.2.2.2.2.2.2.2)) := hD
    refine lv_goto (tgt := 162) hx hb dX1_putControl_130 (by decide) ?_
    exact rVret (u := (st.1, st.2.1, st.2.2.1, st.2.2.2.1, st.2.2.2.2.1, st.2.2.2.2.2.1, st.2.2.2.2.2.2.1, st.2.2.2.2.2.2.2.1, st.2.2.2.2.2.2.2.2.1, p2, st.2.2.2.2.2.2.2.2.2.2.1, st.2.2.2.2.2.2.2.2.2.2.2.1, st.2.2.2.2.2.2.2.2.2.2.2.2.1, st.2.2.2.2.2.2.2.2.2.2.2.2.2.1, st.2.2.2.2.2.2.2.2.2.2.2.2.2.2.1, st.2.2.2.2.2.2.2.2.2.2.2.2.2.2.2.1, st.2.2.2.2.2.2.2.2.2.2.2.2.2.2.2.2.1, st.2.2.2.2.2.2.2.2.2.2.2.2.2.2.2.2.2)) hx hb hr hlocks (by exact (((if_neg c1).trans ((if_neg c2).trans ((if_neg c4).trans ((if_neg c5).trans ((if_pos c7).trans rfl)))))).symm) hK hP hD hS dX1_putControl_162
  by_cases c8 : p1 = 323
  · refine lv_lookup (tgt := 133) (off := 132) hx hb dX1_putControl_1 (by decide) (by rw [c8]; decide) (by decide) ?_
    refine lv_aload_n hx hb dX1_putControl_133 rfl (lv_at hl 0 rfl) ?_
    refine lv_iload_n hx hb dX1_putControl_134 rfl (lv_at hl 2 rfl) ?_
    refine va_put (D := (dC, dI)) (ci := 1) (v := .int p2) (ty := .int) (C := "PagedHartModel") (T := TX1) (N := 18) hx hb hts mU1 tyX1 tyX1_ok nmX1 hown hK hP hD hS 0 rfl rfl 10 (by decide) (hts _ mF_1_84) (fun _ h9 => h9) rfl (by decide +kernel) rfl rfl (Nat.le_of_ble_eq_true rfl) dX1_putControl_135 (fun H locs hP hD hS => ?_)
    have hP : va_P (dC, dI) vwCl (rW cI h0 qme0 qre1 (st.1, st.2.1, st.2.2.1, st.2.2.2.1, st.2.2.2.2.1, st.2.2.2.2.2.1, st.2.2.2.2.2.2.1, st.2.2.2.2.2.2.2.1, st.2.2.2.2.2.2.2.2.1, st.2.2.2.2.2.2.2.2.2.1, p2, st.2.2.2.2.2.2.2.2.2.2.2.1, st.2.2.2.2.2.2.2.2.2.2.2.2.1, st.2.2.2.2.2.2.2.2.2.2.2.2.2.1, st.2.2.2.2.2.2.2.2.2.2.2.2.2.2.1, st.2.2.2.2.2.2.2.2.2.2.2.2.2.2.2.1, st.2.2.2.2.2.2.2.2.2.2.2.2.2.2.2.2.1, st.2.2.2.2.2.2.2.2.2.2.2.2.2.2.2.2.2)) H := hP
    have hD : va_D (rA h0 qme0 qre1 s.heap.size) (rW cI h0 qme0 qre1 (st.1, st.2.1, st.2.2.1, st.2.2.2.1, st.2.2.2.2.1, st.2.2.2.2.2.1, st.2.2.2.2.2.2.1, st.2.2.2.2.2.2.2.1, st.2.2.2.2.2.2.2.2.1, st.2.2.2.2.2.2.2.2.2.1, p2, st.2.2.2.2.2.2.2.2.2.2.2.1, st.2.2.2.2.2.2.2.2.2.2.2.2.1, st.2.2.2.2.2.2.2.2.2.2.2.2.2.1, st.2.2.2.2.2.2.2.2.2.2.2.2.2.2.1, st.2.2.2.2.2.2.2.2.2.2.2.2.2.2.2.1, st.2.2.2.2.2.2.2.2.2.2.2.2.2.2.2.2.1, st.2.2.2.2.2.2.2.2.2.2.2.2.2.2.2.2.2)) := hD
    refine lv_goto (tgt := 162) hx hb dX1_putControl_138 (by decide) ?_
    exact rVret (u := (st.1, st.2.1, st.2.2.1, st.2.2.2.1, st.2.2.2.2.1, st.2.2.2.2.2.1, st.2.2.2.2.2.2.1, st.2.2.2.2.2.2.2.1, st.2.2.2.2.2.2.2.2.1, st.2.2.2.2.2.2.2.2.2.1, p2, st.2.2.2.2.2.2.2.2.2.2.2.1, st.2.2.2.2.2.2.2.2.2.2.2.2.1, st.2.2.2.2.2.2.2.2.2.2.2.2.2.1, st.2.2.2.2.2.2.2.2.2.2.2.2.2.2.1, st.2.2.2.2.2.2.2.2.2.2.2.2.2.2.2.1, st.2.2.2.2.2.2.2.2.2.2.2.2.2.2.2.2.1, st.2.2.2.2.2.2.2.2.2.2.2.2.2.2.2.2.2)) hx hb hr hlocks (by exact (((if_neg c1).trans ((if_neg c2).trans ((if_neg c4).trans ((if_neg c5).trans ((if_neg c7).trans ((if_pos c8).trans rfl))))))).symm) hK hP hD hS dX1_putControl_162
  by_cases c9 : p1 = 384
  · refine lv_lookup (tgt := 141) (off := 140) hx hb dX1_putControl_1 (by decide) (by rw [c9]; decide) (by decide) ?_
    refine lv_aload_n hx hb dX1_putControl_141 rfl (lv_at hl 0 rfl) ?_
    refine lv_iload_n hx hb dX1_putControl_142 rfl (lv_at hl 2 rfl) ?_
    refine va_put (D := (dC, dI)) (ci := 1) (v := .int p2) (ty := .int) (C := "PagedHartModel") (T := TX1) (N := 18) hx hb hts mU1 tyX1 tyX1_ok nmX1 hown hK hP hD hS 0 rfl rfl 11 (by decide) (hts _ mF_1_57) (fun _ h9 => h9) rfl (by decide +kernel) rfl rfl (Nat.le_of_ble_eq_true rfl) dX1_putControl_143 (fun H locs hP hD hS => ?_)
    have hP : va_P (dC, dI) vwCl (rW cI h0 qme0 qre1 (st.1, st.2.1, st.2.2.1, st.2.2.2.1, st.2.2.2.2.1, st.2.2.2.2.2.1, st.2.2.2.2.2.2.1, st.2.2.2.2.2.2.2.1, st.2.2.2.2.2.2.2.2.1, st.2.2.2.2.2.2.2.2.2.1, st.2.2.2.2.2.2.2.2.2.2.1, p2, st.2.2.2.2.2.2.2.2.2.2.2.2.1, st.2.2.2.2.2.2.2.2.2.2.2.2.2.1, st.2.2.2.2.2.2.2.2.2.2.2.2.2.2.1, st.2.2.2.2.2.2.2.2.2.2.2.2.2.2.2.1, st.2.2.2.2.2.2.2.2.2.2.2.2.2.2.2.2.1, st.2.2.2.2.2.2.2.2.2.2.2.2.2.2.2.2.2)) H := hP
    have hD : va_D (rA h0 qme0 qre1 s.heap.size) (rW cI h0 qme0 qre1 (st.1, st.2.1, st.2.2.1, st.2.2.2.1, st.2.2.2.2.1, st.2.2.2.2.2.1, st.2.2.2.2.2.2.1, st.2.2.2.2.2.2.2.1, st.2.2.2.2.2.2.2.2.1, st.2.2.2.2.2.2.2.2.2.1, st.2.2.2.2.2.2.2.2.2.2.1, p2, st.2.2.2.2.2.2.2.2.2.2.2.2.1, st.2.2.2.2.2.2.2.2.2.2.2.2.2.1, st.2.2.2.2.2.2.2.2.2.2.2.2.2.2.1, st.2.2.2.2.2.2.2.2.2.2.2.2.2.2.2.1, st.2.2.2.2.2.2.2.2.2.2.2.2.2.2.2.2.1, st.2.2.2.2.2.2.2.2.2.2.2.2.2.2.2.2.2)) := hD
    refine lv_goto (tgt := 162) hx hb dX1_putControl_146 (by decide) ?_
    exact rVret (u := (st.1, st.2.1, st.2.2.1, st.2.2.2.1, st.2.2.2.2.1, st.2.2.2.2.2.1, st.2.2.2.2.2.2.1, st.2.2.2.2.2.2.2.1, st.2.2.2.2.2.2.2.2.1, st.2.2.2.2.2.2.2.2.2.1, st.2.2.2.2.2.2.2.2.2.2.1, p2, st.2.2.2.2.2.2.2.2.2.2.2.2.1, st.2.2.2.2.2.2.2.2.2.2.2.2.2.1, st.2.2.2.2.2.2.2.2.2.2.2.2.2.2.1, st.2.2.2.2.2.2.2.2.2.2.2.2.2.2.2.1, st.2.2.2.2.2.2.2.2.2.2.2.2.2.2.2.2.1, st.2.2.2.2.2.2.2.2.2.2.2.2.2.2.2.2.2)) hx hb hr hlocks (by exact (((if_neg c1).trans ((if_neg c2).trans ((if_neg c4).trans ((if_neg c5).trans ((if_neg c7).trans ((if_neg c8).trans ((if_pos c9).trans rfl)))))))).symm) hK hP hD hS dX1_putControl_162
  by_cases c10 : p1 = 1472
  · refine lv_lookup (tgt := 149) (off := 148) hx hb dX1_putControl_1 (by decide) (by rw [c10]; decide) (by decide) ?_
    refine lv_aload_n hx hb dX1_putControl_149 rfl (lv_at hl 0 rfl) ?_
    refine lv_iload_n hx hb dX1_putControl_150 rfl (lv_at hl 2 rfl) ?_
    refine va_put (D := (dC, dI)) (ci := 1) (v := .int p2) (ty := .int) (C := "PagedHartModel") (T := TX1) (N := 18) hx hb hts mU1 tyX1 tyX1_ok nmX1 hown hK hP hD hS 0 rfl rfl 12 (by decide) (hts _ mF_1_21) (fun _ h9 => h9) rfl (by decide +kernel) rfl rfl (Nat.le_of_ble_eq_true rfl) dX1_putControl_151 (fun H locs hP hD hS => ?_)
    have hP : va_P (dC, dI) vwCl (rW cI h0 qme0 qre1 (st.1, st.2.1, st.2.2.1, st.2.2.2.1, st.2.2.2.2.1, st.2.2.2.2.2.1, st.2.2.2.2.2.2.1, st.2.2.2.2.2.2.2.1, st.2.2.2.2.2.2.2.2.1, st.2.2.2.2.2.2.2.2.2.1, st.2.2.2.2.2.2.2.2.2.2.1, st.2.2.2.2.2.2.2.2.2.2.2.1, p2, st.2.2.2.2.2.2.2.2.2.2.2.2.2.1, st.2.2.2.2.2.2.2.2.2.2.2.2.2.2.1, st.2.2.2.2.2.2.2.2.2.2.2.2.2.2.2.1, st.2.2.2.2.2.2.2.2.2.2.2.2.2.2.2.2.1, st.2.2.2.2.2.2.2.2.2.2.2.2.2.2.2.2.2)) H := hP
    have hD : va_D (rA h0 qme0 qre1 s.heap.size) (rW cI h0 qme0 qre1 (st.1, st.2.1, st.2.2.1, st.2.2.2.1, st.2.2.2.2.1, st.2.2.2.2.2.1, st.2.2.2.2.2.2.1, st.2.2.2.2.2.2.2.1, st.2.2.2.2.2.2.2.2.1, st.2.2.2.2.2.2.2.2.2.1, st.2.2.2.2.2.2.2.2.2.2.1, st.2.2.2.2.2.2.2.2.2.2.2.1, p2, st.2.2.2.2.2.2.2.2.2.2.2.2.2.1, st.2.2.2.2.2.2.2.2.2.2.2.2.2.2.1, st.2.2.2.2.2.2.2.2.2.2.2.2.2.2.2.1, st.2.2.2.2.2.2.2.2.2.2.2.2.2.2.2.2.1, st.2.2.2.2.2.2.2.2.2.2.2.2.2.2.2.2.2)) := hD
    refine lv_goto (tgt := 162) hx hb dX1_putControl_154 (by decide) ?_
    exact rVret (u := (st.1, st.2.1, st.2.2.1, st.2.2.2.1, st.2.2.2.2.1, st.2.2.2.2.2.1, st.2.2.2.2.2.2.1, st.2.2.2.2.2.2.2.1, st.2.2.2.2.2.2.2.2.1, st.2.2.2.2.2.2.2.2.2.1, st.2.2.2.2.2.2.2.2.2.2.1, st.2.2.2.2.2.2.2.2.2.2.2.1, p2, st.2.2.2.2.2.2.2.2.2.2.2.2.2.1, st.2.2.2.2.2.2.2.2.2.2.2.2.2.2.1, st.2.2.2.2.2.2.2.2.2.2.2.2.2.2.2.1, st.2.2.2.2.2.2.2.2.2.2.2.2.2.2.2.2.1, st.2.2.2.2.2.2.2.2.2.2.2.2.2.2.2.2.2)) hx hb hr hlocks (by exact (((if_neg c1).trans ((if_neg c2).trans ((if_neg c4).trans ((if_neg c5).trans ((if_neg c7).trans ((if_neg c8).trans ((if_neg c9).trans ((if_pos c10).trans rfl))))))))).symm) hK hP hD hS dX1_putControl_162
  refine lv_lookup (tgt := 157) (off := 156) hx hb dX1_putControl_1 (by decide) ((lv_osw (k := 256) c1 (by decide)).trans ((lv_osw (k := 261) c2 (by decide)).trans ((lv_osw (k := 320) c4 (by decide)).trans ((lv_osw (k := 321) c5 (by decide)).trans ((lv_osw (k := 322) c7 (by decide)).trans ((lv_osw (k := 323) c8 (by decide)).trans ((lv_osw (k := 384) c9 (by decide)).trans ((lv_osw (k := 1472) c10 (by decide)).trans rfl)))))))) (by decide) ?_
  refine lv_aload_n hx hb dX1_putControl_157 rfl (lv_at hl 0 rfl) ?_
  refine lv_iload_n hx hb dX1_putControl_158 rfl (lv_at hl 2 rfl) ?_
  refine va_put (D := (dC, dI)) (ci := 1) (v := .int p2) (ty := .int) (C := "PagedHartModel") (T := TX1) (N := 18) hx hb hts mU1 tyX1 tyX1_ok nmX1 hown hK hP hD hS 0 rfl rfl 13 (by decide) (hts _ mF_1_24) (fun _ h9 => h9) rfl (by decide +kernel) rfl rfl (Nat.le_of_ble_eq_true rfl) dX1_putControl_159 (fun H locs hP hD hS => ?_)
  have hP : va_P (dC, dI) vwCl (rW cI h0 qme0 qre1 (st.1, st.2.1, st.2.2.1, st.2.2.2.1, st.2.2.2.2.1, st.2.2.2.2.2.1, st.2.2.2.2.2.2.1, st.2.2.2.2.2.2.2.1, st.2.2.2.2.2.2.2.2.1, st.2.2.2.2.2.2.2.2.2.1, st.2.2.2.2.2.2.2.2.2.2.1, st.2.2.2.2.2.2.2.2.2.2.2.1, st.2.2.2.2.2.2.2.2.2.2.2.2.1, p2, st.2.2.2.2.2.2.2.2.2.2.2.2.2.2.1, st.2.2.2.2.2.2.2.2.2.2.2.2.2.2.2.1, st.2.2.2.2.2.2.2.2.2.2.2.2.2.2.2.2.1, st.2.2.2.2.2.2.2.2.2.2.2.2.2.2.2.2.2)) H := hP
  have hD : va_D (rA h0 qme0 qre1 s.heap.size) (rW cI h0 qme0 qre1 (st.1, st.2.1, st.2.2.1, st.2.2.2.1, st.2.2.2.2.1, st.2.2.2.2.2.1, st.2.2.2.2.2.2.1, st.2.2.2.2.2.2.2.1, st.2.2.2.2.2.2.2.2.1, st.2.2.2.2.2.2.2.2.2.1, st.2.2.2.2.2.2.2.2.2.2.1, st.2.2.2.2.2.2.2.2.2.2.2.1, st.2.2.2.2.2.2.2.2.2.2.2.2.1, p2, st.2.2.2.2.2.2.2.2.2.2.2.2.2.2.1, st.2.2.2.2.2.2.2.2.2.2.2.2.2.2.2.1, st.2.2.2.2.2.2.2.2.2.2.2.2.2.2.2.2.1, st.2.2.2.2.2.2.2.2.2.2.2.2.2.2.2.2.2)) := hD
  exact rVret (u := (st.1, st.2.1, st.2.2.1, st.2.2.2.1, st.2.2.2.2.1, st.2.2.2.2.2.1, st.2.2.2.2.2.2.1, st.2.2.2.2.2.2.2.1, st.2.2.2.2.2.2.2.2.1, st.2.2.2.2.2.2.2.2.2.1, st.2.2.2.2.2.2.2.2.2.2.1, st.2.2.2.2.2.2.2.2.2.2.2.1, st.2.2.2.2.2.2.2.2.2.2.2.2.1, p2, st.2.2.2.2.2.2.2.2.2.2.2.2.2.2.1, st.2.2.2.2.2.2.2.2.2.2.2.2.2.2.2.1, st.2.2.2.2.2.2.2.2.2.2.2.2.2.2.2.2.1, st.2.2.2.2.2.2.2.2.2.2.2.2.2.2.2.2.2)) hx hb hr hlocks (by exact (((if_neg c1).trans ((if_neg c2).trans ((if_neg c4).trans ((if_neg c5).trans ((if_neg c7).trans ((if_neg c8).trans ((if_neg c9).trans ((if_neg c10).trans rfl))))))))).symm) hK hP hD hS dX1_putControl_162

def r_exchange (st : RS) (p1 : Int32) (p2 : Int32) (p3 : Int32) (p4 : Int32) : RS :=
  let x1 : Int32 := r_bits p1 (20 : Int32) (31 : Int32)
  if p2 = (4 : Int32) then
    let z3 : RS := r_trap st (2 : Int32) p1
    z3
  else
    let x4 : Int32 := r_isControl x1
    if x4 = 0 then
      let z32 : RS := r_trap st (2 : Int32) p1
      z32
    else
      let x6 : Int32 := r_bits p1 (15 : Int32) (19 : Int32)
      if p2 ≤ (4 : Int32) then
        let x8 : Int32 := r_controlOf st x1
        let x9 : Int32 := p2 - p2 / (4 : Int32) * (4 : Int32)
        if x9 = (1 : Int32) then
          let z18 : RS := r_putControl st x1 p4
          let z19 : RS := r_set z18 p3 x8
          z19
        else
          if x6 = 0 then
            let z12 : RS := r_set st p3 x8
            z12
          else
            if x9 = (2 : Int32) then
              let z16 : RS := r_putControl st x1 (x8 ||| p4)
              let z17 : RS := r_set z16 p3 x8
              z17
            else
              let z14 : RS := r_putControl st x1 (x8 &&& (p4 ^^^ ((-1) : Int32)))
              let z15 : RS := r_set z14 p3 x8
              z15
      else
        let x20 : Int32 := r_controlOf st x1
        let x21 : Int32 := p2 - p2 / (4 : Int32) * (4 : Int32)
        if x21 = (1 : Int32) then
          let z30 : RS := r_putControl st x1 x6
          let z31 : RS := r_set z30 p3 x20
          z31
        else
          if x6 = 0 then
            let z24 : RS := r_set st p3 x20
            z24
          else
            if x21 = (2 : Int32) then
              let z28 : RS := r_putControl st x1 (x20 ||| x6)
              let z29 : RS := r_set z28 p3 x20
              z29
            else
              let z26 : RS := r_putControl st x1 (x20 &&& (x6 ^^^ ((-1) : Int32)))
              let z27 : RS := r_set z26 p3 x20
              z27
set_option maxHeartbeats 4000000 in
set_option maxRecDepth 100000 in
theorem cr_exchange (l : Launch) (dC : Nat → ClassId) (dI : Nat → Nat → Nat) (cI h0 qme0 qre1 tN tB : Nat) (sz : Nat) (st : RS) (p1 : Int32) (p2 : Int32) (p3 : Int32) (p4 : Int32) (hp3 : vp_in p3 32)  : Met l yX1_exchange (.code yX1_exchange cX1_exchange 10 none :: gBIG) ({ frames := 3, cells := 0, slots := 0, locals := 64 }) (va_Pc [.ref h0, .int p1, .int p2, .int p3, .int p4] (rPre dC dI cI h0 qme0 qre1 tN tB sz st)) (va_Qv (fun v => v = r_exchange st p1 p2 p3 p4) (rB dC dI cI h0 qme0 qre1 (rA h0 qme0 qre1 sz)) (rA h0 qme0 qre1 sz)) 0 0 (rA h0 qme0 qre1 sz) := by
  refine Met.ofW (cc := cX1_exchange) (maxL := 10) (ret := none) (by decide) rfl ?_
  intro p e s m args below meth c s₁ B hml hv
  obtain ⟨rfl, hsz, hP, hK, hD0, hZ⟩ := hv
  have hx := B.exec
  have hb := B.bytes
  have hr := B.returns
  have hts : ∀ w ∈ gBIG, w.before _ s = true := fun w h => atoms_spec (ws := (.code yX1_exchange cX1_exchange 10 none :: gBIG)) B.pre w (List.mem_cons_of_mem _ h)
  have hown : s.vm.findClass "PagedHartModel" = some m.cls := findClass_of_methodNamed B.named
  have hlocks := B.notSynchronized
  subst hsz
  have hD : va_D (rA h0 qme0 qre1 s.heap.size) (rW cI h0 qme0 qre1 st) := rD hD0
  have hS : va_S (rA h0 qme0 qre1 s.heap.size) s.heap s.heap [] := va_S.rf
  have hP : va_P (dC, dI) vwCl (rW cI h0 qme0 qre1 st) s.heap := hP
  have hl := lv_entry ([.ref h0, .int p1, .int p2, .int p3, .int p4]) (n := 10) (Nat.le_of_ble_eq_true rfl)
  rw [lg_entry_eq]
  generalize (lg_sl ([.ref h0, .int p1, .int p2, .int p3, .int p4]) ++ List.replicate (10 - (lg_sl ([.ref h0, .int p1, .int p2, .int p3, .int p4])).length) Slot.unset).toArray = ls at hl ⊢
  refine jgo (P := fun H locs => va_P (dC, dI) vwCl (rW cI h0 qme0 qre1 st) H ∧ va_S (rA h0 qme0 qre1 s.heap.size) s.heap H locs) ⟨hP, hS⟩ (fun H locs hPS => ?_)
  obtain ⟨hP, hS⟩ := hPS
  have hl : lv_has ls 10 [(0, .ref h0), (1, .int p1), (2, .int p2), (3, .int p3), (4, .int p4)] := hl
  refine lv_iload_n hx hb dX1_exchange_0 rfl (lv_at hl 1 rfl) ?_
  refine lv_bipush (v := 20) hx hb dX1_exchange_1 (by decide) ?_
  refine lv_bipush (v := 31) hx hb dX1_exchange_3 (by decide) ?_
  refine W.callR (W.runS (As := [.int p1, .int 20, .int 31]) (rest := []) ⟨hx, hb, hml, hown, hts⟩ (cr_bits l p1 (20 : Int32) (31 : Int32)) (cwS 3 hts (gS mL_1_46 mS_1_bits mN_1 mB_1_bits) rfl rfl rfl (by decide +kernel) ⟨Nat.le_of_ble_eq_true rfl, Nat.le_of_ble_eq_true rfl⟩) ⟨jblind, fun _ _ _ => ⟨rfl, trivial⟩⟩ rfl rfl hl.1 rfl (lv_room (Nat.le_of_ble_eq_true rfl)) dX1_exchange_5 ⟨Nat.zero_le _, Nat.zero_le _⟩) ?_
  refine W.eq (g2 := F0 m 8 ls (.int (r_bits p1 (20 : Int32) (31 : Int32)) :: [])) rfl ?_
  refine lv_topi (fun x1 ex1 => ?_)
  refine lv_istore (lv' := [(5, .int x1), (0, .ref h0), (1, .int p1), (2, .int p2), (3, .int p3), (4, .int p4)]) hx hb dX1_exchange_8 hl (by decide) rfl (fun ls hl => ?_)
  refine lv_iload_n hx hb dX1_exchange_10 rfl (lv_at hl 3 rfl) ?_
  refine lv_iconst (v := 4) hx hb dX1_exchange_11 (by decide) ?_
  refine lv_icmp_eq (tgt := 23) hx hb dX1_exchange_12 (by decide) (fun c2 => ?_) (fun c2 => ?_)
  · refine lv_aload_n hx hb dX1_exchange_23 rfl (lv_at hl 1 rfl) ?_
    refine lv_iconst (v := 2) hx hb dX1_exchange_24 (by decide) ?_
    refine lv_iload_n hx hb dX1_exchange_25 rfl (lv_at hl 2 rfl) ?_
    refine rMv (As := [.int 2, .int p1]) (rest := []) (f := r_trap st (2 : Int32) p1) ⟨hx, hb, hml, hown, hts⟩ (cr_trap l dC dI cI h0 qme0 qre1 tN tB H.size st (2 : Int32) p1) (cwV 2 hts (gV mL_1_93 mI_1_trap mX_1_trap mN_1 mB_1_trap) rfl rfl rfl (by decide +kernel) ⟨Nat.le_of_ble_eq_true rfl, Nat.le_of_ble_eq_true rfl⟩) hK hP hD hS hZ rfl hl.1 rfl (Nat.le_of_ble_eq_true rfl) dX1_exchange_26 ⟨Nat.zero_le _, Nat.zero_le _⟩ (fun z3 ez3 H locs hP hD hS => ?_)
    have hP : va_P (dC, dI) vwCl (rW cI h0 qme0 qre1 z3) H := hP
    have hD : va_D (rA h0 qme0 qre1 s.heap.size) (rW cI h0 qme0 qre1 z3) := hD
    exact rVret (u := z3) hx hb hr hlocks (by subst ez3 ex1; exact (((if_pos c2).trans rfl)).symm) hK hP hD hS dX1_exchange_29
  · refine lv_iload hx hb dX1_exchange_15 (lv_at hl 0 rfl) ?_
    refine W.callR (W.runS (As := [.int x1]) (rest := []) ⟨hx, hb, hml, hown, hts⟩ (cr_isControl l x1) (cwS 1 hts (gS mL_1_169 mS_1_isControl mN_1 mB_1_isControl) rfl rfl rfl (by decide +kernel) ⟨Nat.le_of_ble_eq_true rfl, Nat.le_of_ble_eq_true rfl⟩) ⟨jblind, fun _ _ _ => ⟨rfl, trivial⟩⟩ rfl rfl hl.1 rfl (lv_room (Nat.le_of_ble_eq_true rfl)) dX1_exchange_17 ⟨Nat.zero_le _, Nat.zero_le _⟩) ?_
    refine W.eq (g2 := F0 m 20 ls (.int (r_isControl x1) :: [])) rfl ?_
    refine lv_topi (fun x4 ex4 => ?_)
    refine lv_if_ne (tgt := 30) hx hb dX1_exchange_20 (by decide) (fun c5 => ?_) (fun c5 => ?_)
    · refine lv_iload_n hx hb dX1_exchange_30 rfl (lv_at hl 2 rfl) ?_
      refine lv_bipush (v := 15) hx hb dX1_exchange_31 (by decide) ?_
      refine lv_bipush (v := 19) hx hb dX1_exchange_33 (by decide) ?_
      refine W.callR (W.runS (As := [.int p1, .int 15, .int 19]) (rest := []) ⟨hx, hb, hml, hown, hts⟩ (cr_bits l p1 (15 : Int32) (19 : Int32)) (cwS 3 hts (gS mL_1_46 mS_1_bits mN_1 mB_1_bits) rfl rfl rfl (by decide +kernel) ⟨Nat.le_of_ble_eq_true rfl, Nat.le_of_ble_eq_true rfl⟩) ⟨jblind, fun _ _ _ => ⟨rfl, trivial⟩⟩ rfl rfl hl.1 rfl (lv_room (Nat.le_of_ble_eq_true rfl)) dX1_exchange_35 ⟨Nat.zero_le _, Nat.zero_le _⟩) ?_
      refine W.eq (g2 := F0 m 38 ls (.int (r_bits p1 (15 : Int32) (19 : Int32)) :: [])) rfl ?_
      refine lv_topi (fun x6 ex6 => ?_)
      refine lv_istore (lv' := [(6, .int x6), (5, .int x1), (0, .ref h0), (1, .int p1), (2, .int p2), (3, .int p3), (4, .int p4)]) hx hb dX1_exchange_38 hl (by decide) rfl (fun ls hl => ?_)
      refine lv_iload_n hx hb dX1_exchange_40 rfl (lv_at hl 4 rfl) ?_
      refine lv_iconst (v := 4) hx hb dX1_exchange_41 (by decide) ?_
      refine lv_icmp_le (tgt := 50) hx hb dX1_exchange_42 (by decide) (fun c7 => ?_) (fun c7 => ?_)
      · refine lv_iload hx hb dX1_exchange_50 (lv_at hl 6 rfl) ?_
        refine lv_istore (lv' := [(7, .int p4), (6, .int x6), (5, .int x1), (0, .ref h0), (1, .int p1), (2, .int p2), (3, .int p3), (4, .int p4)]) hx hb dX1_exchange_52 hl (by decide) rfl (fun ls hl => ?_)
        refine lv_aload_n hx hb dX1_exchange_54 rfl (lv_at hl 3 rfl) ?_
        refine lv_iload hx hb dX1_exchange_55 (lv_at hl 2 rfl) ?_
        refine rR (As := [.int x1]) (rest := []) (f := r_controlOf st x1) ⟨hx, hb, hml, hown, hts⟩ (cr_controlOf l dC dI cI h0 qme0 qre1 tN tB H.size st x1) (cwV 1 hts (gV mL_1_172 mI_1_controlOf mX_1_controlOf mN_1 mB_1_controlOf) rfl rfl rfl (by decide +kernel) ⟨Nat.le_of_ble_eq_true rfl, Nat.le_of_ble_eq_true rfl⟩) hK hP hD hS hZ rfl hl.1 rfl (Nat.le_of_ble_eq_true rfl) dX1_exchange_57 ⟨Nat.zero_le _, Nat.zero_le _⟩ ?_
        refine lv_topi (fun x8 ex8 => ?_)
        refine lv_istore (lv' := [(8, .int x8), (7, .int p4), (6, .int x6), (5, .int x1), (0, .ref h0), (1, .int p1), (2, .int p2), (3, .int p3), (4, .int p4)]) hx hb dX1_exchange_60 hl (by decide) rfl (fun ls hl => ?_)
        refine lv_iload_n hx hb dX1_exchange_62 rfl (lv_at hl 6 rfl) ?_
        refine lv_iconst (v := 4) hx hb dX1_exchange_63 (by decide) ?_
        refine lv_irem hx hb dX1_exchange_64 (by decide) ?_
        refine lv_topi (fun x9 ex9 => ?_)
        refine lv_istore (lv' := [(9, .int x9), (8, .int x8), (7, .int p4), (6, .int x6), (5, .int x1), (0, .ref h0), (1, .int p1), (2, .int p2), (3, .int p3), (4, .int p4)]) hx hb dX1_exchange_65 hl (by decide) rfl (fun ls hl => ?_)
        refine lv_iload hx hb dX1_exchange_67 (lv_at hl 0 rfl) ?_
        refine lv_iconst (v := 1) hx hb dX1_exchange_69 (by decide) ?_
        refine lv_icmp_ne (tgt := 84) hx hb dX1_exchange_70 (by decide) (fun c10 => ?_) (fun c10 => ?_)
        · refine lv_iload hx hb dX1_exchange_84 (lv_at hl 3 rfl) ?_
          refine lv_if_eq (tgt := 116) hx hb dX1_exchange_86 (by decide) (fun c11 => ?_) (fun c11 => ?_)
          · refine lv_aload_n hx hb dX1_exchange_116 rfl (lv_at hl 5 rfl) ?_
            refine lv_iload_n hx hb dX1_exchange_117 rfl (lv_at hl 8 rfl) ?_
            refine lv_iload hx hb dX1_exchange_118 (lv_at hl 1 rfl) ?_
            refine rMv (As := [.int p3, .int x8]) (rest := []) (f := r_set st p3 x8) ⟨hx, hb, hml, hown, hts⟩ (cr_set l dC dI cI h0 qme0 qre1 tN tB H.size st p3 x8 hp3) (cwV 2 hts (gV mL_1_112 mI_1_set mX_1_set mN_1 mB_1_set) rfl rfl rfl (by decide +kernel) ⟨Nat.le_of_ble_eq_true rfl, Nat.le_of_ble_eq_true rfl⟩) hK hP hD hS hZ rfl hl.1 rfl (Nat.le_of_ble_eq_true rfl) dX1_exchange_120 ⟨Nat.zero_le _, Nat.zero_le _⟩ (fun z12 ez12 H locs hP hD hS => ?_)
            have hP : va_P (dC, dI) vwCl (rW cI h0 qme0 qre1 z12) H := hP
            have hD : va_D (rA h0 qme0 qre1 s.heap.size) (rW cI h0 qme0 qre1 z12) := hD
            exact rVret (u := z12) hx hb hr hlocks (by subst ez12 ex9 ex8 ex6 ex4 ex1; exact (((if_neg c2).trans ((if_neg c5).trans ((if_pos c7).trans ((if_neg c10).trans ((if_pos c11).trans rfl)))))).symm) hK hP hD hS dX1_exchange_123
          · refine lv_aload_n hx hb dX1_exchange_89 rfl (lv_at hl 5 rfl) ?_
            refine lv_iload hx hb dX1_exchange_90 (lv_at hl 4 rfl) ?_
            refine lv_iload hx hb dX1_exchange_92 (lv_at hl 0 rfl) ?_
            refine lv_iconst (v := 2) hx hb dX1_exchange_94 (by decide) ?_
            refine lv_icmp_ne (tgt := 106) hx hb dX1_exchange_95 (by decide) (fun c13 => ?_) (fun c13 => ?_)
            · refine lv_iload hx hb dX1_exchange_106 (lv_at hl 1 rfl) ?_
              refine lv_iload hx hb dX1_exchange_108 (lv_at hl 2 rfl) ?_
              refine lv_iconst (v := (-1)) hx hb dX1_exchange_110 (by decide) ?_
              refine lv_ixor hx hb dX1_exchange_111 ?_
              refine lv_iand hx hb dX1_exchange_112 ?_
              refine rMv (As := [.int x1, .int (x8 &&& (p4 ^^^ ((-1) : Int32)))]) (rest := []) (f := r_putControl st x1 (x8 &&& (p4 ^^^ ((-1) : Int32)))) ⟨hx, hb, hml, hown, hts⟩ (cr_putControl l dC dI cI h0 qme0 qre1 tN tB H.size st x1 (x8 &&& (p4 ^^^ ((-1) : Int32)))) (cwV 2 hts (gV mL_1_175 mI_1_putControl mX_1_putControl mN_1 mB_1_putControl) rfl rfl rfl (by decide +kernel) ⟨Nat.le_of_ble_eq_true rfl, Nat.le_of_ble_eq_true rfl⟩) hK hP hD hS hZ rfl hl.1 rfl (Nat.le_of_ble_eq_true rfl) dX1_exchange_113 ⟨Nat.zero_le _, Nat.zero_le _⟩ (fun z14 ez14 H locs hP hD hS => ?_)
              have hP : va_P (dC, dI) vwCl (rW cI h0 qme0 qre1 z14) H := hP
              have hD : va_D (rA h0 qme0 qre1 s.heap.size) (rW cI h0 qme0 qre1 z14) := hD
              refine lv_aload_n hx hb dX1_exchange_116 rfl (lv_at hl 5 rfl) ?_
              refine lv_iload_n hx hb dX1_exchange_117 rfl (lv_at hl 8 rfl) ?_
              refine lv_iload hx hb dX1_exchange_118 (lv_at hl 1 rfl) ?_
              refine rMv (As := [.int p3, .int x8]) (rest := []) (f := r_set z14 p3 x8) ⟨hx, hb, hml, hown, hts⟩ (cr_set l dC dI cI h0 qme0 qre1 tN tB H.size z14 p3 x8 hp3) (cwV 2 hts (gV mL_1_112 mI_1_set mX_1_set mN_1 mB_1_set) rfl rfl rfl (by decide +kernel) ⟨Nat.le_of_ble_eq_true rfl, Nat.le_of_ble_eq_true rfl⟩) hK hP hD hS hZ rfl hl.1 rfl (Nat.le_of_ble_eq_true rfl) dX1_exchange_120 ⟨Nat.zero_le _, Nat.zero_le _⟩ (fun z15 ez15 H locs hP hD hS => ?_)
              have hP : va_P (dC, dI) vwCl (rW cI h0 qme0 qre1 z15) H := hP
              have hD : va_D (rA h0 qme0 qre1 s.heap.size) (rW cI h0 qme0 qre1 z15) := hD
              exact rVret (u := z15) hx hb hr hlocks (by subst ez15 ez14 ex9 ex8 ex6 ex4 ex1; exact (((if_neg c2).trans ((if_neg c5).trans ((if_pos c7).trans ((if_neg c10).trans ((if_neg c11).trans ((if_neg c13).trans rfl))))))).symm) hK hP hD hS dX1_exchange_123
            · refine lv_iload hx hb dX1_exchange_98 (lv_at hl 1 rfl) ?_
              refine lv_iload hx hb dX1_exchange_100 (lv_at hl 2 rfl) ?_
              refine lv_ior hx hb dX1_exchange_102 ?_
              refine lv_goto (tgt := 113) hx hb dX1_exchange_103 (by decide) ?_
              refine rMv (As := [.int x1, .int (x8 ||| p4)]) (rest := []) (f := r_putControl st x1 (x8 ||| p4)) ⟨hx, hb, hml, hown, hts⟩ (cr_putControl l dC dI cI h0 qme0 qre1 tN tB H.size st x1 (x8 ||| p4)) (cwV 2 hts (gV mL_1_175 mI_1_putControl mX_1_putControl mN_1 mB_1_putControl) rfl rfl rfl (by decide +kernel) ⟨Nat.le_of_ble_eq_true rfl, Nat.le_of_ble_eq_true rfl⟩) hK hP hD hS hZ rfl hl.1 rfl (Nat.le_of_ble_eq_true rfl) dX1_exchange_113 ⟨Nat.zero_le _, Nat.zero_le _⟩ (fun z16 ez16 H locs hP hD hS => ?_)
              have hP : va_P (dC, dI) vwCl (rW cI h0 qme0 qre1 z16) H := hP
              have hD : va_D (rA h0 qme0 qre1 s.heap.size) (rW cI h0 qme0 qre1 z16) := hD
              refine lv_aload_n hx hb dX1_exchange_116 rfl (lv_at hl 5 rfl) ?_
              refine lv_iload_n hx hb dX1_exchange_117 rfl (lv_at hl 8 rfl) ?_
              refine lv_iload hx hb dX1_exchange_118 (lv_at hl 1 rfl) ?_
              refine rMv (As := [.int p3, .int x8]) (rest := []) (f := r_set z16 p3 x8) ⟨hx, hb, hml, hown, hts⟩ (cr_set l dC dI cI h0 qme0 qre1 tN tB H.size z16 p3 x8 hp3) (cwV 2 hts (gV mL_1_112 mI_1_set mX_1_set mN_1 mB_1_set) rfl rfl rfl (by decide +kernel) ⟨Nat.le_of_ble_eq_true rfl, Nat.le_of_ble_eq_true rfl⟩) hK hP hD hS hZ rfl hl.1 rfl (Nat.le_of_ble_eq_true rfl) dX1_exchange_120 ⟨Nat.zero_le _, Nat.zero_le _⟩ (fun z17 ez17 H locs hP hD hS => ?_)
              have hP : va_P (dC, dI) vwCl (rW cI h0 qme0 qre1 z17) H := hP
              have hD : va_D (rA h0 qme0 qre1 s.heap.size) (rW cI h0 qme0 qre1 z17) := hD
              exact rVret (u := z17) hx hb hr hlocks (by subst ez17 ez16 ex9 ex8 ex6 ex4 ex1; exact (((if_neg c2).trans ((if_neg c5).trans ((if_pos c7).trans ((if_neg c10).trans ((if_neg c11).trans ((if_pos c13).trans rfl))))))).symm) hK hP hD hS dX1_exchange_123
        · refine lv_aload_n hx hb dX1_exchange_73 rfl (lv_at hl 5 rfl) ?_
          refine lv_iload hx hb dX1_exchange_74 (lv_at hl 4 rfl) ?_
          refine lv_iload hx hb dX1_exchange_76 (lv_at hl 2 rfl) ?_
          refine rMv (As := [.int x1, .int p4]) (rest := []) (f := r_putControl st x1 p4) ⟨hx, hb, hml, hown, hts⟩ (cr_putControl l dC dI cI h0 qme0 qre1 tN tB H.size st x1 p4) (cwV 2 hts (gV mL_1_175 mI_1_putControl mX_1_putControl mN_1 mB_1_putControl) rfl rfl rfl (by decide +kernel) ⟨Nat.le_of_ble_eq_true rfl, Nat.le_of_ble_eq_true rfl⟩) hK hP hD hS hZ rfl hl.1 rfl (Nat.le_of_ble_eq_true rfl) dX1_exchange_78 ⟨Nat.zero_le _, Nat.zero_le _⟩ (fun z18 ez18 H locs hP hD hS => ?_)
          have hP : va_P (dC, dI) vwCl (rW cI h0 qme0 qre1 z18) H := hP
          have hD : va_D (rA h0 qme0 qre1 s.heap.size) (rW cI h0 qme0 qre1 z18) := hD
          refine lv_goto (tgt := 116) hx hb dX1_exchange_81 (by decide) ?_
          refine lv_aload_n hx hb dX1_exchange_116 rfl (lv_at hl 5 rfl) ?_
          refine lv_iload_n hx hb dX1_exchange_117 rfl (lv_at hl 8 rfl) ?_
          refine lv_iload hx hb dX1_exchange_118 (lv_at hl 1 rfl) ?_
          refine rMv (As := [.int p3, .int x8]) (rest := []) (f := r_set z18 p3 x8) ⟨hx, hb, hml, hown, hts⟩ (cr_set l dC dI cI h0 qme0 qre1 tN tB H.size z18 p3 x8 hp3) (cwV 2 hts (gV mL_1_112 mI_1_set mX_1_set mN_1 mB_1_set) rfl rfl rfl (by decide +kernel) ⟨Nat.le_of_ble_eq_true rfl, Nat.le_of_ble_eq_true rfl⟩) hK hP hD hS hZ rfl hl.1 rfl (Nat.le_of_ble_eq_true rfl) dX1_exchange_120 ⟨Nat.zero_le _, Nat.zero_le _⟩ (fun z19 ez19 H locs hP hD hS => ?_)
          have hP : va_P (dC, dI) vwCl (rW cI h0 qme0 qre1 z19) H := hP
          have hD : va_D (rA h0 qme0 qre1 s.heap.size) (rW cI h0 qme0 qre1 z19) := hD
          exact rVret (u := z19) hx hb hr hlocks (by subst ez19 ez18 ex9 ex8 ex6 ex4 ex1; exact (((if_neg c2).trans ((if_neg c5).trans ((if_pos c7).trans ((if_pos c10).trans rfl))))).symm) hK hP hD hS dX1_exchange_123
      · refine lv_iload hx hb dX1_exchange_45 (lv_at hl 0 rfl) ?_
        refine lv_goto (tgt := 52) hx hb dX1_exchange_47 (by decide) ?_
        refine lv_istore (lv' := [(7, .int x6), (6, .int x6), (5, .int x1), (0, .ref h0), (1, .int p1), (2, .int p2), (3, .int p3), (4, .int p4)]) hx hb dX1_exchange_52 hl (by decide) rfl (fun ls hl => ?_)
        refine lv_aload_n hx hb dX1_exchange_54 rfl (lv_at hl 3 rfl) ?_
        refine lv_iload hx hb dX1_exchange_55 (lv_at hl 2 rfl) ?_
        refine rR (As := [.int x1]) (rest := []) (f := r_controlOf st x1) ⟨hx, hb, hml, hown, hts⟩ (cr_controlOf l dC dI cI h0 qme0 qre1 tN tB H.size st x1) (cwV 1 hts (gV mL_1_172 mI_1_controlOf mX_1_controlOf mN_1 mB_1_controlOf) rfl rfl rfl (by decide +kernel) ⟨Nat.le_of_ble_eq_true rfl, Nat.le_of_ble_eq_true rfl⟩) hK hP hD hS hZ rfl hl.1 rfl (Nat.le_of_ble_eq_true rfl) dX1_exchange_57 ⟨Nat.zero_le _, Nat.zero_le _⟩ ?_
        refine lv_topi (fun x20 ex20 => ?_)
        refine lv_istore (lv' := [(8, .int x20), (7, .int x6), (6, .int x6), (5, .int x1), (0, .ref h0), (1, .int p1), (2, .int p2), (3, .int p3), (4, .int p4)]) hx hb dX1_exchange_60 hl (by decide) rfl (fun ls hl => ?_)
        refine lv_iload_n hx hb dX1_exchange_62 rfl (lv_at hl 6 rfl) ?_
        refine lv_iconst (v := 4) hx hb dX1_exchange_63 (by decide) ?_
        refine lv_irem hx hb dX1_exchange_64 (by decide) ?_
        refine lv_topi (fun x21 ex21 => ?_)
        refine lv_istore (lv' := [(9, .int x21), (8, .int x20), (7, .int x6), (6, .int x6), (5, .int x1), (0, .ref h0), (1, .int p1), (2, .int p2), (3, .int p3), (4, .int p4)]) hx hb dX1_exchange_65 hl (by decide) rfl (fun ls hl => ?_)
        refine lv_iload hx hb dX1_exchange_67 (lv_at hl 0 rfl) ?_
        refine lv_iconst (v := 1) hx hb dX1_exchange_69 (by decide) ?_
        refine lv_icmp_ne (tgt := 84) hx hb dX1_exchange_70 (by decide) (fun c22 => ?_) (fun c22 => ?_)
        · refine lv_iload hx hb dX1_exchange_84 (lv_at hl 3 rfl) ?_
          refine lv_if_eq (tgt := 116) hx hb dX1_exchange_86 (by decide) (fun c23 => ?_) (fun c23 => ?_)
          · refine lv_aload_n hx hb dX1_exchange_116 rfl (lv_at hl 5 rfl) ?_
            refine lv_iload_n hx hb dX1_exchange_117 rfl (lv_at hl 8 rfl) ?_
            refine lv_iload hx hb dX1_exchange_118 (lv_at hl 1 rfl) ?_
            refine rMv (As := [.int p3, .int x20]) (rest := []) (f := r_set st p3 x20) ⟨hx, hb, hml, hown, hts⟩ (cr_set l dC dI cI h0 qme0 qre1 tN tB H.size st p3 x20 hp3) (cwV 2 hts (gV mL_1_112 mI_1_set mX_1_set mN_1 mB_1_set) rfl rfl rfl (by decide +kernel) ⟨Nat.le_of_ble_eq_true rfl, Nat.le_of_ble_eq_true rfl⟩) hK hP hD hS hZ rfl hl.1 rfl (Nat.le_of_ble_eq_true rfl) dX1_exchange_120 ⟨Nat.zero_le _, Nat.zero_le _⟩ (fun z24 ez24 H locs hP hD hS => ?_)
            have hP : va_P (dC, dI) vwCl (rW cI h0 qme0 qre1 z24) H := hP
            have hD : va_D (rA h0 qme0 qre1 s.heap.size) (rW cI h0 qme0 qre1 z24) := hD
            exact rVret (u := z24) hx hb hr hlocks (by subst ez24 ex21 ex20 ex6 ex4 ex1; exact (((if_neg c2).trans ((if_neg c5).trans ((if_neg c7).trans ((if_neg c22).trans ((if_pos c23).trans rfl)))))).symm) hK hP hD hS dX1_exchange_123
          · refine lv_aload_n hx hb dX1_exchange_89 rfl (lv_at hl 5 rfl) ?_
            refine lv_iload hx hb dX1_exchange_90 (lv_at hl 4 rfl) ?_
            refine lv_iload hx hb dX1_exchange_92 (lv_at hl 0 rfl) ?_
            refine lv_iconst (v := 2) hx hb dX1_exchange_94 (by decide) ?_
            refine lv_icmp_ne (tgt := 106) hx hb dX1_exchange_95 (by decide) (fun c25 => ?_) (fun c25 => ?_)
            · refine lv_iload hx hb dX1_exchange_106 (lv_at hl 1 rfl) ?_
              refine lv_iload hx hb dX1_exchange_108 (lv_at hl 2 rfl) ?_
              refine lv_iconst (v := (-1)) hx hb dX1_exchange_110 (by decide) ?_
              refine lv_ixor hx hb dX1_exchange_111 ?_
              refine lv_iand hx hb dX1_exchange_112 ?_
              refine rMv (As := [.int x1, .int (x20 &&& (x6 ^^^ ((-1) : Int32)))]) (rest := []) (f := r_putControl st x1 (x20 &&& (x6 ^^^ ((-1) : Int32)))) ⟨hx, hb, hml, hown, hts⟩ (cr_putControl l dC dI cI h0 qme0 qre1 tN tB H.size st x1 (x20 &&& (x6 ^^^ ((-1) : Int32)))) (cwV 2 hts (gV mL_1_175 mI_1_putControl mX_1_putControl mN_1 mB_1_putControl) rfl rfl rfl (by decide +kernel) ⟨Nat.le_of_ble_eq_true rfl, Nat.le_of_ble_eq_true rfl⟩) hK hP hD hS hZ rfl hl.1 rfl (Nat.le_of_ble_eq_true rfl) dX1_exchange_113 ⟨Nat.zero_le _, Nat.zero_le _⟩ (fun z26 ez26 H locs hP hD hS => ?_)
              have hP : va_P (dC, dI) vwCl (rW cI h0 qme0 qre1 z26) H := hP
              have hD : va_D (rA h0 qme0 qre1 s.heap.size) (rW cI h0 qme0 qre1 z26) := hD
              refine lv_aload_n hx hb dX1_exchange_116 rfl (lv_at hl 5 rfl) ?_
              refine lv_iload_n hx hb dX1_exchange_117 rfl (lv_at hl 8 rfl) ?_
              refine lv_iload hx hb dX1_exchange_118 (lv_at hl 1 rfl) ?_
              refine rMv (As := [.int p3, .int x20]) (rest := []) (f := r_set z26 p3 x20) ⟨hx, hb, hml, hown, hts⟩ (cr_set l dC dI cI h0 qme0 qre1 tN tB H.size z26 p3 x20 hp3) (cwV 2 hts (gV mL_1_112 mI_1_set mX_1_set mN_1 mB_1_set) rfl rfl rfl (by decide +kernel) ⟨Nat.le_of_ble_eq_true rfl, Nat.le_of_ble_eq_true rfl⟩) hK hP hD hS hZ rfl hl.1 rfl (Nat.le_of_ble_eq_true rfl) dX1_exchange_120 ⟨Nat.zero_le _, Nat.zero_le _⟩ (fun z27 ez27 H locs hP hD hS => ?_)
              have hP : va_P (dC, dI) vwCl (rW cI h0 qme0 qre1 z27) H := hP
              have hD : va_D (rA h0 qme0 qre1 s.heap.size) (rW cI h0 qme0 qre1 z27) := hD
              exact rVret (u := z27) hx hb hr hlocks (by subst ez27 ez26 ex21 ex20 ex6 ex4 ex1; exact (((if_neg c2).trans ((if_neg c5).trans ((if_neg c7).trans ((if_neg c22).trans ((if_neg c23).trans ((if_neg c25).trans rfl))))))).symm) hK hP hD hS dX1_exchange_123
            · refine lv_iload hx hb dX1_exchange_98 (lv_at hl 1 rfl) ?_
              refine lv_iload hx hb dX1_exchange_100 (lv_at hl 2 rfl) ?_
              refine lv_ior hx hb dX1_exchange_102 ?_
              refine lv_goto (tgt := 113) hx hb dX1_exchange_103 (by decide) ?_
              refine rMv (As := [.int x1, .int (x20 ||| x6)]) (rest := []) (f := r_putControl st x1 (x20 ||| x6)) ⟨hx, hb, hml, hown, hts⟩ (cr_putControl l dC dI cI h0 qme0 qre1 tN tB H.size st x1 (x20 ||| x6)) (cwV 2 hts (gV mL_1_175 mI_1_putControl mX_1_putControl mN_1 mB_1_putControl) rfl rfl rfl (by decide +kernel) ⟨Nat.le_of_ble_eq_true rfl, Nat.le_of_ble_eq_true rfl⟩) hK hP hD hS hZ rfl hl.1 rfl (Nat.le_of_ble_eq_true rfl) dX1_exchange_113 ⟨Nat.zero_le _, Nat.zero_le _⟩ (fun z28 ez28 H locs hP hD hS => ?_)
              have hP : va_P (dC, dI) vwCl (rW cI h0 qme0 qre1 z28) H := hP
              have hD : va_D (rA h0 qme0 qre1 s.heap.size) (rW cI h0 qme0 qre1 z28) := hD
              refine lv_aload_n hx hb dX1_exchange_116 rfl (lv_at hl 5 rfl) ?_
              refine lv_iload_n hx hb dX1_exchange_117 rfl (lv_at hl 8 rfl) ?_
              refine lv_iload hx hb dX1_exchange_118 (lv_at hl 1 rfl) ?_
              refine rMv (As := [.int p3, .int x20]) (rest := []) (f := r_set z28 p3 x20) ⟨hx, hb, hml, hown, hts⟩ (cr_set l dC dI cI h0 qme0 qre1 tN tB H.size z28 p3 x20 hp3) (cwV 2 hts (gV mL_1_112 mI_1_set mX_1_set mN_1 mB_1_set) rfl rfl rfl (by decide +kernel) ⟨Nat.le_of_ble_eq_true rfl, Nat.le_of_ble_eq_true rfl⟩) hK hP hD hS hZ rfl hl.1 rfl (Nat.le_of_ble_eq_true rfl) dX1_exchange_120 ⟨Nat.zero_le _, Nat.zero_le _⟩ (fun z29 ez29 H locs hP hD hS => ?_)
              have hP : va_P (dC, dI) vwCl (rW cI h0 qme0 qre1 z29) H := hP
              have hD : va_D (rA h0 qme0 qre1 s.heap.size) (rW cI h0 qme0 qre1 z29) := hD
              exact rVret (u := z29) hx hb hr hlocks (by subst ez29 ez28 ex21 ex20 ex6 ex4 ex1; exact (((if_neg c2).trans ((if_neg c5).trans ((if_neg c7).trans ((if_neg c22).trans ((if_neg c23).trans ((if_pos c25).trans rfl))))))).symm) hK hP hD hS dX1_exchange_123
        · refine lv_aload_n hx hb dX1_exchange_73 rfl (lv_at hl 5 rfl) ?_
          refine lv_iload hx hb dX1_exchange_74 (lv_at hl 4 rfl) ?_
          refine lv_iload hx hb dX1_exchange_76 (lv_at hl 2 rfl) ?_
          refine rMv (As := [.int x1, .int x6]) (rest := []) (f := r_putControl st x1 x6) ⟨hx, hb, hml, hown, hts⟩ (cr_putControl l dC dI cI h0 qme0 qre1 tN tB H.size st x1 x6) (cwV 2 hts (gV mL_1_175 mI_1_putControl mX_1_putControl mN_1 mB_1_putControl) rfl rfl rfl (by decide +kernel) ⟨Nat.le_of_ble_eq_true rfl, Nat.le_of_ble_eq_true rfl⟩) hK hP hD hS hZ rfl hl.1 rfl (Nat.le_of_ble_eq_true rfl) dX1_exchange_78 ⟨Nat.zero_le _, Nat.zero_le _⟩ (fun z30 ez30 H locs hP hD hS => ?_)
          have hP : va_P (dC, dI) vwCl (rW cI h0 qme0 qre1 z30) H := hP
          have hD : va_D (rA h0 qme0 qre1 s.heap.size) (rW cI h0 qme0 qre1 z30) := hD
          refine lv_goto (tgt := 116) hx hb dX1_exchange_81 (by decide) ?_
          refine lv_aload_n hx hb dX1_exchange_116 rfl (lv_at hl 5 rfl) ?_
          refine lv_iload_n hx hb dX1_exchange_117 rfl (lv_at hl 8 rfl) ?_
          refine lv_iload hx hb dX1_exchange_118 (lv_at hl 1 rfl) ?_
          refine rMv (As := [.int p3, .int x20]) (rest := []) (f := r_set z30 p3 x20) ⟨hx, hb, hml, hown, hts⟩ (cr_set l dC dI cI h0 qme0 qre1 tN tB H.size z30 p3 x20 hp3) (cwV 2 hts (gV mL_1_112 mI_1_set mX_1_set mN_1 mB_1_set) rfl rfl rfl (by decide +kernel) ⟨Nat.le_of_ble_eq_true rfl, Nat.le_of_ble_eq_true rfl⟩) hK hP hD hS hZ rfl hl.1 rfl (Nat.le_of_ble_eq_true rfl) dX1_exchange_120 ⟨Nat.zero_le _, Nat.zero_le _⟩ (fun z31 ez31 H locs hP hD hS => ?_)
          have hP : va_P (dC, dI) vwCl (rW cI h0 qme0 qre1 z31) H := hP
          have hD : va_D (rA h0 qme0 qre1 s.heap.size) (rW cI h0 qme0 qre1 z31) := hD
          exact rVret (u := z31) hx hb hr hlocks (by subst ez31 ez30 ex21 ex20 ex6 ex4 ex1; exact (((if_neg c2).trans ((if_neg c5).trans ((if_neg c7).trans ((if_pos c22).trans rfl))))).symm) hK hP hD hS dX1_exchange_123
    · refine lv_aload_n hx hb dX1_exchange_23 rfl (lv_at hl 1 rfl) ?_
      refine lv_iconst (v := 2) hx hb dX1_exchange_24 (by decide) ?_
      refine lv_iload_n hx hb dX1_exchange_25 rfl (lv_at hl 2 rfl) ?_
      refine rMv (As := [.int 2, .int p1]) (rest := []) (f := r_trap st (2 : Int32) p1) ⟨hx, hb, hml, hown, hts⟩ (cr_trap l dC dI cI h0 qme0 qre1 tN tB H.size st (2 : Int32) p1) (cwV 2 hts (gV mL_1_93 mI_1_trap mX_1_trap mN_1 mB_1_trap) rfl rfl rfl (by decide +kernel) ⟨Nat.le_of_ble_eq_true rfl, Nat.le_of_ble_eq_true rfl⟩) hK hP hD hS hZ rfl hl.1 rfl (Nat.le_of_ble_eq_true rfl) dX1_exchange_26 ⟨Nat.zero_le _, Nat.zero_le _⟩ (fun z32 ez32 H locs hP hD hS => ?_)
      have hP : va_P (dC, dI) vwCl (rW cI h0 qme0 qre1 z32) H := hP
      have hD : va_D (rA h0 qme0 qre1 s.heap.size) (rW cI h0 qme0 qre1 z32) := hD
      exact rVret (u := z32) hx hb hr hlocks (by subst ez32 ex4 ex1; exact (((if_neg c2).trans ((if_pos c5).trans rfl))).symm) hK hP hD hS dX1_exchange_29

def r_system (st : RS) (p1 : Int32) (p2 : Int32) (p3 : Int32) (p4 : Int32) : RS :=
  if p1 = (115 : Int32) then
    if st.2.2.2.2.1 = 0 then
      let z21 : RS := r_trap st (8 : Int32) (0 : Int32)
      z21
    else
      (st.1, st.2.1, st.2.2.1, st.2.2.2.1, st.2.2.2.2.1, st.2.2.2.2.2.1, st.2.2.2.2.2.2.1, st.2.2.2.2.2.2.2.1, st.2.2.2.2.2.2.2.2.1, st.2.2.2.2.2.2.2.2.2.1, st.2.2.2.2.2.2.2.2.2.2.1, st.2.2.2.2.2.2.2.2.2.2.2.1, st.2.2.2.2.2.2.2.2.2.2.2.2.1, st.2.2.2.2.2.2.2.2.2.2.2.2.2.1, (1 : Int32), st.2.2.2.2.2.2.2.2.2.2.2.2.2.2.2.1, st.2.2.2.2.2.2.2.2.2.2.2.2.2.2.2.2.1, st.2.2.2.2.2.2.2.2.2.2.2.2.2.2.2.2.2)
  else
    if p1 = (1048691 : Int32) then
      let z19 : RS := r_trap st (3 : Int32) st.2.2.2.1
      z19
    else
      if st.2.2.2.2.1 = 0 then
        let z18 : RS := r_trap st (2 : Int32) p1
        z18
      else
        if p1 = (270532723 : Int32) then
          if (st.2.2.2.2.2.1 &&& (256 : Int32)) = 0 then
            (st.1, st.2.1, st.2.2.1, st.2.2.2.1, (0 : Int32), st.2.2.2.2.2.1 &&& (262144 : Int32), st.2.2.2.2.2.2.1, st.2.2.2.2.2.2.2.1, st.2.2.2.2.2.2.2.2.1, st.2.2.2.2.2.2.2.2.2.1, st.2.2.2.2.2.2.2.2.2.2.1, st.2.2.2.2.2.2.2.2.2.2.2.1, st.2.2.2.2.2.2.2.2.2.2.2.2.1, st.2.2.2.2.2.2.2.2.2.2.2.2.2.1, st.2.2.2.2.2.2.2.2.2.2.2.2.2.2.1, st.2.2.2.2.2.2.2.2.2.2.2.2.2.2.2.1, st.2.2.2.2.2.2.2.2.1, st.2.2.2.2.2.2.2.2.2.2.2.2.2.2.2.2.2)
          else
            (st.1, st.2.1, st.2.2.1, st.2.2.2.1, (1 : Int32), st.2.2.2.2.2.1 &&& (262144 : Int32), st.2.2.2.2.2.2.1, st.2.2.2.2.2.2.2.1, st.2.2.2.2.2.2.2.2.1, st.2.2.2.2.2.2.2.2.2.1, st.2.2.2.2.2.2.2.2.2.2.1, st.2.2.2.2.2.2.2.2.2.2.2.1, st.2.2.2.2.2.2.2.2.2.2.2.2.1, st.2.2.2.2.2.2.2.2.2.2.2.2.2.1, st.2.2.2.2.2.2.2.2.2.2.2.2.2.2.1, st.2.2.2.2.2.2.2.2.2.2.2.2.2.2.2.1, st.2.2.2.2.2.2.2.2.1, st.2.2.2.2.2.2.2.2.2.2.2.2.2.2.2.2.2)
        else
          if p2 = 0 then
            if p1 = (273678451 : Int32) then
              st
            else
              let x9 : Int32 := r_bits p1 (25 : Int32) (31 : Int32)
              if x9 = (9 : Int32) then
                if p3 = 0 then
                  st
                else
                  let z15 : RS := r_trap st (2 : Int32) p1
                  z15
              else
                let z12 : RS := r_trap st (2 : Int32) p1
                z12
          else
            let z6 : RS := r_exchange st p1 p2 p3 p4
            z6
set_option maxHeartbeats 4000000 in
set_option maxRecDepth 100000 in
theorem cr_system (l : Launch) (dC : Nat → ClassId) (dI : Nat → Nat → Nat) (cI h0 qme0 qre1 tN tB : Nat) (sz : Nat) (st : RS) (p1 : Int32) (p2 : Int32) (p3 : Int32) (p4 : Int32) (hp3 : vp_in p3 32)  : Met l yX1_system (.code yX1_system cX1_system 6 none :: gBIG) ({ frames := 4, cells := 0, slots := 0, locals := 93 }) (va_Pc [.ref h0, .int p1, .int p2, .int p3, .int p4] (rPre dC dI cI h0 qme0 qre1 tN tB sz st)) (va_Qv (fun v => v = r_system st p1 p2 p3 p4) (rB dC dI cI h0 qme0 qre1 (rA h0 qme0 qre1 sz)) (rA h0 qme0 qre1 sz)) 0 0 (rA h0 qme0 qre1 sz) := by
  refine Met.ofW (cc := cX1_system) (maxL := 6) (ret := none) (by decide) rfl ?_
  intro p e s m args below meth c s₁ B hml hv
  obtain ⟨rfl, hsz, hP, hK, hD0, hZ⟩ := hv
  have hx := B.exec
  have hb := B.bytes
  have hr := B.returns
  have hts : ∀ w ∈ gBIG, w.before _ s = true := fun w h => atoms_spec (ws := (.code yX1_system cX1_system 6 none :: gBIG)) B.pre w (List.mem_cons_of_mem _ h)
  have hown : s.vm.findClass "PagedHartModel" = some m.cls := findClass_of_methodNamed B.named
  have hlocks := B.notSynchronized
  subst hsz
  have hD : va_D (rA h0 qme0 qre1 s.heap.size) (rW cI h0 qme0 qre1 st) := rD hD0
  have hS : va_S (rA h0 qme0 qre1 s.heap.size) s.heap s.heap [] := va_S.rf
  have hP : va_P (dC, dI) vwCl (rW cI h0 qme0 qre1 st) s.heap := hP
  have hl := lv_entry ([.ref h0, .int p1, .int p2, .int p3, .int p4]) (n := 6) (Nat.le_of_ble_eq_true rfl)
  rw [lg_entry_eq]
  generalize (lg_sl ([.ref h0, .int p1, .int p2, .int p3, .int p4]) ++ List.replicate (6 - (lg_sl ([.ref h0, .int p1, .int p2, .int p3, .int p4])).length) Slot.unset).toArray = ls at hl ⊢
  refine jgo (P := fun H locs => va_P (dC, dI) vwCl (rW cI h0 qme0 qre1 st) H ∧ va_S (rA h0 qme0 qre1 s.heap.size) s.heap H locs) ⟨hP, hS⟩ (fun H locs hPS => ?_)
  obtain ⟨hP, hS⟩ := hPS
  have hl : lv_has ls 6 [(0, .ref h0), (1, .int p1), (2, .int p2), (3, .int p3), (4, .int p4)] := hl
  refine lv_iload_n hx hb dX1_system_0 rfl (lv_at hl 1 rfl) ?_
  refine lv_bipush (v := 115) hx hb dX1_system_1 (by decide) ?_
  refine lv_icmp_ne (tgt := 31) hx hb dX1_system_3 (by decide) (fun c1 => ?_) (fun c1 => ?_)
  · refine lv_iload_n hx hb dX1_system_31 rfl (lv_at hl 1 rfl) ?_
    refine lv_ldc (v := 1048691) hx hb hown (hts _ mC_1_163) dX1_system_32 ?_
    refine lv_icmp_ne (tgt := 49) hx hb dX1_system_34 (by decide) (fun c2 => ?_) (fun c2 => ?_)
    · refine lv_aload_n hx hb dX1_system_49 rfl (lv_at hl 0 rfl) ?_
      refine va_get (D := (dC, dI)) (ci := 1) (v := .int st.2.2.2.2.1) (C := "PagedHartModel") (T := TX1) (N := 18) hx hb hts mU1 hown hK hP 0 rfl rfl 4 (by decide) (hts _ mF_1_17) (fun _ h9 => h9) rfl dX1_system_50 ?_
      refine lv_if_ne (tgt := 65) hx hb dX1_system_53 (by decide) (fun c3 => ?_) (fun c3 => ?_)
      · refine lv_iload_n hx hb dX1_system_65 rfl (lv_at hl 1 rfl) ?_
        refine lv_ldc (v := 270532723) hx hb hown (hts _ mC_1_164) dX1_system_66 ?_
        refine lv_icmp_ne (tgt := 113) hx hb dX1_system_68 (by decide) (fun c4 => ?_) (fun c4 => ?_)
        · refine lv_iload_n hx hb dX1_system_113 rfl (lv_at hl 2 rfl) ?_
          refine lv_if_ne (tgt := 161) hx hb dX1_system_114 (by decide) (fun c5 => ?_) (fun c5 => ?_)
          · refine lv_aload_n hx hb dX1_system_161 rfl (lv_at hl 0 rfl) ?_
            refine lv_iload_n hx hb dX1_system_162 rfl (lv_at hl 1 rfl) ?_
            refine lv_iload_n hx hb dX1_system_163 rfl (lv_at hl 2 rfl) ?_
            refine lv_iload_n hx hb dX1_system_164 rfl (lv_at hl 3 rfl) ?_
            refine lv_iload hx hb dX1_system_165 (lv_at hl 4 rfl) ?_
            refine rMv (As := [.int p1, .int p2, .int p3, .int p4]) (rest := []) (f := r_exchange st p1 p2 p3 p4) ⟨hx, hb, hml, hown, hts⟩ (cr_exchange l dC dI cI h0 qme0 qre1 tN tB H.size st p1 p2 p3 p4 hp3) (cwV 4 hts (gV mL_1_166 mI_1_exchange mX_1_exchange mN_1 mB_1_exchange) rfl rfl rfl (by decide +kernel) ⟨Nat.le_of_ble_eq_true rfl, Nat.le_of_ble_eq_true rfl⟩) hK hP hD hS hZ rfl hl.1 rfl (Nat.le_of_ble_eq_true rfl) dX1_system_167 ⟨Nat.zero_le _, Nat.zero_le _⟩ (fun z6 ez6 H locs hP hD hS => ?_)
            have hP : va_P (dC, dI) vwCl (rW cI h0 qme0 qre1 z6) H := hP
            have hD : va_D (rA h0 qme0 qre1 s.heap.size) (rW cI h0 qme0 qre1 z6) := hD
            exact rVret (u := z6) hx hb hr hlocks (by subst ez6; exact (((if_neg c1).trans ((if_neg c2).trans ((if_neg c3).trans ((if_neg c4).trans ((if_neg c5).trans rfl)))))).symm) hK hP hD hS dX1_system_170
          · refine lv_iload_n hx hb dX1_system_117 rfl (lv_at hl 1 rfl) ?_
            refine lv_ldc (v := 273678451) hx hb hown (hts _ mC_1_165) dX1_system_118 ?_
            refine lv_icmp_eq (tgt := 140) hx hb dX1_system_120 (by decide) (fun c7 => ?_) (fun c7 => ?_)
            · refine lv_iconst (v := 1) hx hb dX1_system_140 (by decide) ?_
              refine lv_goto (tgt := 145) hx hb dX1_system_141 (by decide) ?_
              refine lv_istore (lv' := [(5, .int 1), (0, .ref h0), (1, .int p1), (2, .int p2), (3, .int p3), (4, .int p4)]) hx hb dX1_system_145 hl (by decide) rfl (fun ls hl => ?_)
              refine lv_iload hx hb dX1_system_147 (lv_at hl 0 rfl) ?_
              refine lv_if_ne (tgt := 158) hx hb dX1_system_149 (by decide) (fun c8 => ?_) (fun c8 => ?_)
              · refine lv_goto (tgt := 170) hx hb dX1_system_158 (by decide) ?_
                exact rVret (u := st) hx hb hr hlocks (by exact (((if_neg c1).trans ((if_neg c2).trans ((if_neg c3).trans ((if_neg c4).trans ((if_pos c5).trans ((if_pos c7).trans rfl))))))).symm) hK hP hD hS dX1_system_170
              · exact absurd c8 (by decide)
            · refine lv_iload_n hx hb dX1_system_123 rfl (lv_at hl 1 rfl) ?_
              refine lv_bipush (v := 25) hx hb dX1_system_124 (by decide) ?_
              refine lv_bipush (v := 31) hx hb dX1_system_126 (by decide) ?_
              refine W.callR (W.runS (As := [.int p1, .int 25, .int 31]) (rest := []) ⟨hx, hb, hml, hown, hts⟩ (cr_bits l p1 (25 : Int32) (31 : Int32)) (cwS 3 hts (gS mL_1_46 mS_1_bits mN_1 mB_1_bits) rfl rfl rfl (by decide +kernel) ⟨Nat.le_of_ble_eq_true rfl, Nat.le_of_ble_eq_true rfl⟩) ⟨jblind, fun _ _ _ => ⟨rfl, trivial⟩⟩ rfl rfl hl.1 rfl (lv_room (Nat.le_of_ble_eq_true rfl)) dX1_system_128 ⟨Nat.zero_le _, Nat.zero_le _⟩) ?_
              refine W.eq (g2 := F0 m 131 ls (.int (r_bits p1 (25 : Int32) (31 : Int32)) :: [])) rfl ?_
              refine lv_topi (fun x9 ex9 => ?_)
              refine lv_bipush (v := 9) hx hb dX1_system_131 (by decide) ?_
              refine lv_icmp_ne (tgt := 144) hx hb dX1_system_133 (by decide) (fun c10 => ?_) (fun c10 => ?_)
              · refine lv_iconst (v := 0) hx hb dX1_system_144 (by decide) ?_
                refine lv_istore (lv' := [(5, .int 0), (0, .ref h0), (1, .int p1), (2, .int p2), (3, .int p3), (4, .int p4)]) hx hb dX1_system_145 hl (by decide) rfl (fun ls hl => ?_)
                refine lv_iload hx hb dX1_system_147 (lv_at hl 0 rfl) ?_
                refine lv_if_ne (tgt := 158) hx hb dX1_system_149 (by decide) (fun c11 => ?_) (fun c11 => ?_)
                · exact (c11 (by decide)).elim
                · refine lv_aload_n hx hb dX1_system_152 rfl (lv_at hl 1 rfl) ?_
                  refine lv_iconst (v := 2) hx hb dX1_system_153 (by decide) ?_
                  refine lv_iload_n hx hb dX1_system_154 rfl (lv_at hl 2 rfl) ?_
                  refine rMv (As := [.int 2, .int p1]) (rest := []) (f := r_trap st (2 : Int32) p1) ⟨hx, hb, hml, hown, hts⟩ (cr_trap l dC dI cI h0 qme0 qre1 tN tB H.size st (2 : Int32) p1) (cwV 2 hts (gV mL_1_93 mI_1_trap mX_1_trap mN_1 mB_1_trap) rfl rfl rfl (by decide +kernel) ⟨Nat.le_of_ble_eq_true rfl, Nat.le_of_ble_eq_true rfl⟩) hK hP hD hS hZ rfl hl.1 rfl (Nat.le_of_ble_eq_true rfl) dX1_system_155 ⟨Nat.zero_le _, Nat.zero_le _⟩ (fun z12 ez12 H locs hP hD hS => ?_)
                  have hP : va_P (dC, dI) vwCl (rW cI h0 qme0 qre1 z12) H := hP
                  have hD : va_D (rA h0 qme0 qre1 s.heap.size) (rW cI h0 qme0 qre1 z12) := hD
                  refine lv_goto (tgt := 170) hx hb dX1_system_158 (by decide) ?_
                  exact rVret (u := z12) hx hb hr hlocks (by subst ez12 ex9; exact (((if_neg c1).trans ((if_neg c2).trans ((if_neg c3).trans ((if_neg c4).trans ((if_pos c5).trans ((if_neg c7).trans ((if_neg c10).trans rfl)))))))).symm) hK hP hD hS dX1_system_170
              · refine lv_iload_n hx hb dX1_system_136 rfl (lv_at hl 3 rfl) ?_
                refine lv_if_ne (tgt := 144) hx hb dX1_system_137 (by decide) (fun c13 => ?_) (fun c13 => ?_)
                · refine lv_iconst (v := 0) hx hb dX1_system_144 (by decide) ?_
                  refine lv_istore (lv' := [(5, .int 0), (0, .ref h0), (1, .int p1), (2, .int p2), (3, .int p3), (4, .int p4)]) hx hb dX1_system_145 hl (by decide) rfl (fun ls hl => ?_)
                  refine lv_iload hx hb dX1_system_147 (lv_at hl 0 rfl) ?_
                  refine lv_if_ne (tgt := 158) hx hb dX1_system_149 (by decide) (fun c14 => ?_) (fun c14 => ?_)
                  · exact (c14 (by decide)).elim
                  · refine lv_aload_n hx hb dX1_system_152 rfl (lv_at hl 1 rfl) ?_
                    refine lv_iconst (v := 2) hx hb dX1_system_153 (by decide) ?_
                    refine lv_iload_n hx hb dX1_system_154 rfl (lv_at hl 2 rfl) ?_
                    refine rMv (As := [.int 2, .int p1]) (rest := []) (f := r_trap st (2 : Int32) p1) ⟨hx, hb, hml, hown, hts⟩ (cr_trap l dC dI cI h0 qme0 qre1 tN tB H.size st (2 : Int32) p1) (cwV 2 hts (gV mL_1_93 mI_1_trap mX_1_trap mN_1 mB_1_trap) rfl rfl rfl (by decide +kernel) ⟨Nat.le_of_ble_eq_true rfl, Nat.le_of_ble_eq_true rfl⟩) hK hP hD hS hZ rfl hl.1 rfl (Nat.le_of_ble_eq_true rfl) dX1_system_155 ⟨Nat.zero_le _, Nat.zero_le _⟩ (fun z15 ez15 H locs hP hD hS => ?_)
                    have hP : va_P (dC, dI) vwCl (rW cI h0 qme0 qre1 z15) H := hP
                    have hD : va_D (rA h0 qme0 qre1 s.heap.size) (rW cI h0 qme0 qre1 z15) := hD
                    refine lv_goto (tgt := 170) hx hb dX1_system_158 (by decide) ?_
                    exact rVret (u := z15) hx hb hr hlocks (by subst ez15 ex9; exact (((if_neg c1).trans ((if_neg c2).trans ((if_neg c3).trans ((if_neg c4).trans ((if_pos c5).trans ((if_neg c7).trans ((if_pos c10).trans ((if_neg c13).trans rfl))))))))).symm) hK hP hD hS dX1_system_170
                · refine lv_iconst (v := 1) hx hb dX1_system_140 (by decide) ?_
                  refine lv_goto (tgt := 145) hx hb dX1_system_141 (by decide) ?_
                  refine lv_istore (lv' := [(5, .int 1), (0, .ref h0), (1, .int p1), (2, .int p2), (3, .int p3), (4, .int p4)]) hx hb dX1_system_145 hl (by decide) rfl (fun ls hl => ?_)
                  refine lv_iload hx hb dX1_system_147 (lv_at hl 0 rfl) ?_
                  refine lv_if_ne (tgt := 158) hx hb dX1_system_149 (by decide) (fun c16 => ?_) (fun c16 => ?_)
                  · refine lv_goto (tgt := 170) hx hb dX1_system_158 (by decide) ?_
                    exact rVret (u := st) hx hb hr hlocks (by subst ex9; exact (((if_neg c1).trans ((if_neg c2).trans ((if_neg c3).trans ((if_neg c4).trans ((if_pos c5).trans ((if_neg c7).trans ((if_pos c10).trans ((if_pos c13).trans rfl))))))))).symm) hK hP hD hS dX1_system_170
                  · exact absurd c16 (by decide)
        · refine lv_aload_n hx hb dX1_system_71 rfl (lv_at hl 0 rfl) ?_
          refine lv_aload_n hx hb dX1_system_72 rfl (lv_at hl 0 rfl) ?_
          refine va_get (D := (dC, dI)) (ci := 1) (v := .int st.2.2.2.2.2.2.2.2.1) (C := "PagedHartModel") (T := TX1) (N := 18) hx hb hts mU1 hown hK hP 0 rfl rfl 8 (by decide) (hts _ mF_1_78) (fun _ h9 => h9) rfl dX1_system_73 ?_
          refine va_put (D := (dC, dI)) (ci := 1) (v := .int st.2.2.2.2.2.2.2.2.1) (ty := .int) (C := "PagedHartModel") (T := TX1) (N := 18) hx hb hts mU1 tyX1 tyX1_ok nmX1 hown hK hP hD hS 0 rfl rfl 16 (by decide) (hts _ mF_1_105) (fun _ h9 => h9) rfl (by decide +kernel) rfl rfl (Nat.le_of_ble_eq_true rfl) dX1_system_76 (fun H locs hP hD hS => ?_)
          have hP : va_P (dC, dI) vwCl (rW cI h0 qme0 qre1 (st.1, st.2.1, st.2.2.1, st.2.2.2.1, st.2.2.2.2.1, st.2.2.2.2.2.1, st.2.2.2.2.2.2.1, st.2.2.2.2.2.2.2.1, st.2.2.2.2.2.2.2.2.1, st.2.2.2.2.2.2.2.2.2.1, st.2.2.2.2.2.2.2.2.2.2.1, st.2.2.2.2.2.2.2.2.2.2.2.1, st.2.2.2.2.2.2.2.2.2.2.2.2.1, st.2.2.2.2.2.2.2.2.2.2.2.2.2.1, st.2.2.2.2.2.2.2.2.2.2.2.2.2.2.1, st.2.2.2.2.2.2.2.2.2.2.2.2.2.2.2.1, st.2.2.2.2.2.2.2.2.1, st.2.2.2.2.2.2.2.2.2.2.2.2.2.2.2.2.2)) H := hP
          have hD : va_D (rA h0 qme0 qre1 s.heap.size) (rW cI h0 qme0 qre1 (st.1, st.2.1, st.2.2.1, st.2.2.2.1, st.2.2.2.2.1, st.2.2.2.2.2.1, st.2.2.2.2.2.2.1, st.2.2.2.2.2.2.2.1, st.2.2.2.2.2.2.2.2.1, st.2.2.2.2.2.2.2.2.2.1, st.2.2.2.2.2.2.2.2.2.2.1, st.2.2.2.2.2.2.2.2.2.2.2.1, st.2.2.2.2.2.2.2.2.2.2.2.2.1, st.2.2.2.2.2.2.2.2.2.2.2.2.2.1, st.2.2.2.2.2.2.2.2.2.2.2.2.2.2.1, st.2.2.2.2.2.2.2.2.2.2.2.2.2.2.2.1, st.2.2.2.2.2.2.2.2.1, st.2.2.2.2.2.2.2.2.2.2.2.2.2.2.2.2.2)) := hD
          refine lv_aload_n hx hb dX1_system_79 rfl (lv_at hl 0 rfl) ?_
          refine lv_aload_n hx hb dX1_system_80 rfl (lv_at hl 0 rfl) ?_
          refine va_get (D := (dC, dI)) (ci := 1) (v := .int st.2.2.2.2.2.1) (C := "PagedHartModel") (T := TX1) (N := 18) hx hb hts mU1 hown hK hP 0 rfl rfl 5 (by decide) (hts _ mF_1_50) (fun _ h9 => h9) rfl dX1_system_81 ?_
          refine lv_sipush (v := 256) hx hb dX1_system_84 (by decide) ?_
          refine lv_iand hx hb dX1_system_87 ?_
          refine lv_if_eq (tgt := 95) hx hb dX1_system_88 (by decide) (fun c17 => ?_) (fun c17 => ?_)
          · refine lv_iconst (v := 0) hx hb dX1_system_95 (by decide) ?_
            refine va_put (D := (dC, dI)) (ci := 1) (v := .int 0) (ty := .int) (C := "PagedHartModel") (T := TX1) (N := 18) hx hb hts mU1 tyX1 tyX1_ok nmX1 hown hK hP hD hS 0 rfl rfl 4 (by decide) (hts _ mF_1_17) (fun _ h9 => h9) rfl (by decide +kernel) rfl rfl (Nat.le_of_ble_eq_true rfl) dX1_system_96 (fun H locs hP hD hS => ?_)
            have hP : va_P (dC, dI) vwCl (rW cI h0 qme0 qre1 (st.1, st.2.1, st.2.2.1, st.2.2.2.1, (0 : Int32), st.2.2.2.2.2.1, st.2.2.2.2.2.2.1, st.2.2.2.2.2.2.2.1, st.2.2.2.2.2.2.2.2.1, st.2.2.2.2.2.2.2.2.2.1, st.2.2.2.2.2.2.2.2.2.2.1, st.2.2.2.2.2.2.2.2.2.2.2.1, st.2.2.2.2.2.2.2.2.2.2.2.2.1, st.2.2.2.2.2.2.2.2.2.2.2.2.2.1, st.2.2.2.2.2.2.2.2.2.2.2.2.2.2.1, st.2.2.2.2.2.2.2.2.2.2.2.2.2.2.2.1, st.2.2.2.2.2.2.2.2.1, st.2.2.2.2.2.2.2.2.2.2.2.2.2.2.2.2.2)) H := hP
            have hD : va_D (rA h0 qme0 qre1 s.heap.size) (rW cI h0 qme0 qre1 (st.1, st.2.1, st.2.2.1, st.2.2.2.1, (0 : Int32), st.2.2.2.2.2.1, st.2.2.2.2.2.2.1, st.2.2.2.2.2.2.2.1, st.2.2.2.2.2.2.2.2.1, st.2.2.2.2.2.2.2.2.2.1, st.2.2.2.2.2.2.2.2.2.2.1, st.2.2.2.2.2.2.2.2.2.2.2.1, st.2.2.2.2.2.2.2.2.2.2.2.2.1, st.2.2.2.2.2.2.2.2.2.2.2.2.2.1, st.2.2.2.2.2.2.2.2.2.2.2.2.2.2.1, st.2.2.2.2.2.2.2.2.2.2.2.2.2.2.2.1, st.2.2.2.2.2.2.2.2.1, st.2.2.2.2.2.2.2.2.2.2.2.2.2.2.2.2.2)) := hD
            refine lv_aload_n hx hb dX1_system_99 rfl (lv_at hl 0 rfl) ?_
            refine lv_aload_n hx hb dX1_system_100 rfl (lv_at hl 0 rfl) ?_
            refine va_get (D := (dC, dI)) (ci := 1) (v := .int st.2.2.2.2.2.1) (C := "PagedHartModel") (T := TX1) (N := 18) hx hb hts mU1 hown hK hP 0 rfl rfl 5 (by decide) (hts _ mF_1_50) (fun _ h9 => h9) rfl dX1_system_101 ?_
            refine lv_ldc (v := 262144) hx hb hown (hts _ mC_1_53) dX1_system_104 ?_
            refine lv_iand hx hb dX1_system_106 ?_
            refine va_put (D := (dC, dI)) (ci := 1) (v := .int (st.2.2.2.2.2.1 &&& (262144 : Int32))) (ty := .int) (C := "PagedHartModel") (T := TX1) (N := 18) hx hb hts mU1 tyX1 tyX1_ok nmX1 hown hK hP hD hS 0 rfl rfl 5 (by decide) (hts _ mF_1_50) (fun _ h9 => h9) rfl (by decide +kernel) rfl rfl (Nat.le_of_ble_eq_true rfl) dX1_system_107 (fun H locs hP hD hS => ?_)
            have hP : va_P (dC, dI) vwCl (rW cI h0 qme0 qre1 (st.1, st.2.1, st.2.2.1, st.2.2.2.1, (0 : Int32), st.2.2.2.2.2.1 &&& (262144 : Int32), st.2.2.2.2.2.2.1, st.2.2.2.2.2.2.2.1, st.2.2.2.2.2.2.2.2.1, st.2.2.2.2.2.2.2.2.2.1, st.2.2.2.2.2.2.2.2.2.2.1, st.2.2.2.2.2.2.2.2.2.2.2.1, st.2.2.2.2.2.2.2.2.2.2.2.2.1, st.2.2.2.2.2.2.2.2.2.2.2.2.2.1, st.2.2.2.2.2.2.2.2.2.2.2.2.2.2.1, st.2.2.2.2.2.2.2.2.2.2.2.2.2.2.2.1, st.2.2.2.2.2.2.2.2.1, st.2.2.2.2.2.2.2.2.2.2.2.2.2.2.2.2.2)) H := hP
            have hD : va_D (rA h0 qme0 qre1 s.heap.size) (rW cI h0 qme0 qre1 (st.1, st.2.1, st.2.2.1, st.2.2.2.1, (0 : Int32), st.2.2.2.2.2.1 &&& (262144 : Int32), st.2.2.2.2.2.2.1, st.2.2.2.2.2.2.2.1, st.2.2.2.2.2.2.2.2.1, st.2.2.2.2.2.2.2.2.2.1, st.2.2.2.2.2.2.2.2.2.2.1, st.2.2.2.2.2.2.2.2.2.2.2.1, st.2.2.2.2.2.2.2.2.2.2.2.2.1, st.2.2.2.2.2.2.2.2.2.2.2.2.2.1, st.2.2.2.2.2.2.2.2.2.2.2.2.2.2.1, st.2.2.2.2.2.2.2.2.2.2.2.2.2.2.2.1, st.2.2.2.2.2.2.2.2.1, st.2.2.2.2.2.2.2.2.2.2.2.2.2.2.2.2.2)) := hD
            refine lv_goto (tgt := 170) hx hb dX1_system_110 (by decide) ?_
            exact rVret (u := (st.1, st.2.1, st.2.2.1, st.2.2.2.1, (0 : Int32), st.2.2.2.2.2.1 &&& (262144 : Int32), st.2.2.2.2.2.2.1, st.2.2.2.2.2.2.2.1, st.2.2.2.2.2.2.2.2.1, st.2.2.2.2.2.2.2.2.2.1, st.2.2.2.2.2.2.2.2.2.2.1, st.2.2.2.2.2.2.2.2.2.2.2.1, st.2.2.2.2.2.2.2.2.2.2.2.2.1, st.2.2.2.2.2.2.2.2.2.2.2.2.2.1, st.2.2.2.2.2.2.2.2.2.2.2.2.2.2.1, st.2.2.2.2.2.2.2.2.2.2.2.2.2.2.2.1, st.2.2.2.2.2.2.2.2.1, st.2.2.2.2.2.2.2.2.2.2.2.2.2.2.2.2.2)) hx hb hr hlocks (by exact (((if_neg c1).trans ((if_neg c2).trans ((if_neg c3).trans ((if_pos c4).trans ((if_pos c17).trans rfl)))))).symm) hK hP hD hS dX1_system_170
          · refine lv_iconst (v := 1) hx hb dX1_system_91 (by decide) ?_
            refine lv_goto (tgt := 96) hx hb dX1_system_92 (by decide) ?_
            refine va_put (D := (dC, dI)) (ci := 1) (v := .int 1) (ty := .int) (C := "PagedHartModel") (T := TX1) (N := 18) hx hb hts mU1 tyX1 tyX1_ok nmX1 hown hK hP hD hS 0 rfl rfl 4 (by decide) (hts _ mF_1_17) (fun _ h9 => h9) rfl (by decide +kernel) rfl rfl (Nat.le_of_ble_eq_true rfl) dX1_system_96 (fun H locs hP hD hS => ?_)
            have hP : va_P (dC, dI) vwCl (rW cI h0 qme0 qre1 (st.1, st.2.1, st.2.2.1, st.2.2.2.1, (1 : Int32), st.2.2.2.2.2.1, st.2.2.2.2.2.2.1, st.2.2.2.2.2.2.2.1, st.2.2.2.2.2.2.2.2.1, st.2.2.2.2.2.2.2.2.2.1, st.2.2.2.2.2.2.2.2.2.2.1, st.2.2.2.2.2.2.2.2.2.2.2.1, st.2.2.2.2.2.2.2.2.2.2.2.2.1, st.2.2.2.2.2.2.2.2.2.2.2.2.2.1, st.2.2.2.2.2.2.2.2.2.2.2.2.2.2.1, st.2.2.2.2.2.2.2.2.2.2.2.2.2.2.2.1, st.2.2.2.2.2.2.2.2.1, st.2.2.2.2.2.2.2.2.2.2.2.2.2.2.2.2.2)) H := hP
            have hD : va_D (rA h0 qme0 qre1 s.heap.size) (rW cI h0 qme0 qre1 (st.1, st.2.1, st.2.2.1, st.2.2.2.1, (1 : Int32), st.2.2.2.2.2.1, st.2.2.2.2.2.2.1, st.2.2.2.2.2.2.2.1, st.2.2.2.2.2.2.2.2.1, st.2.2.2.2.2.2.2.2.2.1, st.2.2.2.2.2.2.2.2.2.2.1, st.2.2.2.2.2.2.2.2.2.2.2.1, st.2.2.2.2.2.2.2.2.2.2.2.2.1, st.2.2.2.2.2.2.2.2.2.2.2.2.2.1, st.2.2.2.2.2.2.2.2.2.2.2.2.2.2.1, st.2.2.2.2.2.2.2.2.2.2.2.2.2.2.2.1, st.2.2.2.2.2.2.2.2.1, st.2.2.2.2.2.2.2.2.2.2.2.2.2.2.2.2.2)) := hD
            refine lv_aload_n hx hb dX1_system_99 rfl (lv_at hl 0 rfl) ?_
            refine lv_aload_n hx hb dX1_system_100 rfl (lv_at hl 0 rfl) ?_
            refine va_get (D := (dC, dI)) (ci := 1) (v := .int st.2.2.2.2.2.1) (C := "PagedHartModel") (T := TX1) (N := 18) hx hb hts mU1 hown hK hP 0 rfl rfl 5 (by decide) (hts _ mF_1_50) (fun _ h9 => h9) rfl dX1_system_101 ?_
            refine lv_ldc (v := 262144) hx hb hown (hts _ mC_1_53) dX1_system_104 ?_
            refine lv_iand hx hb dX1_system_106 ?_
            refine va_put (D := (dC, dI)) (ci := 1) (v := .int (st.2.2.2.2.2.1 &&& (262144 : Int32))) (ty := .int) (C := "PagedHartModel") (T := TX1) (N := 18) hx hb hts mU1 tyX1 tyX1_ok nmX1 hown hK hP hD hS 0 rfl rfl 5 (by decide) (hts _ mF_1_50) (fun _ h9 => h9) rfl (by decide +kernel) rfl rfl (Nat.le_of_ble_eq_true rfl) dX1_system_107 (fun H locs hP hD hS => ?_)
            have hP : va_P (dC, dI) vwCl (rW cI h0 qme0 qre1 (st.1, st.2.1, st.2.2.1, st.2.2.2.1, (1 : Int32), st.2.2.2.2.2.1 &&& (262144 : Int32), st.2.2.2.2.2.2.1, st.2.2.2.2.2.2.2.1, st.2.2.2.2.2.2.2.2.1, st.2.2.2.2.2.2.2.2.2.1, st.2.2.2.2.2.2.2.2.2.2.1, st.2.2.2.2.2.2.2.2.2.2.2.1, st.2.2.2.2.2.2.2.2.2.2.2.2.1, st.2.2.2.2.2.2.2.2.2.2.2.2.2.1, st.2.2.2.2.2.2.2.2.2.2.2.2.2.2.1, st.2.2.2.2.2.2.2.2.2.2.2.2.2.2.2.1, st.2.2.2.2.2.2.2.2.1, st.2.2.2.2.2.2.2.2.2.2.2.2.2.2.2.2.2)) H := hP
            have hD : va_D (rA h0 qme0 qre1 s.heap.size) (rW cI h0 qme0 qre1 (st.1, st.2.1, st.2.2.1, st.2.2.2.1, (1 : Int32), st.2.2.2.2.2.1 &&& (262144 : Int32), st.2.2.2.2.2.2.1, st.2.2.2.2.2.2.2.1, st.2.2.2.2.2.2.2.2.1, st.2.2.2.2.2.2.2.2.2.1, st.2.2.2.2.2.2.2.2.2.2.1, st.2.2.2.2.2.2.2.2.2.2.2.1, st.2.2.2.2.2.2.2.2.2.2.2.2.1, st.2.2.2.2.2.2.2.2.2.2.2.2.2.1, st.2.2.2.2.2.2.2.2.2.2.2.2.2.2.1, st.2.2.2.2.2.2.2.2.2.2.2.2.2.2.2.1, st.2.2.2.2.2.2.2.2.1, st.2.2.2.2.2.2.2.2.2.2.2.2.2.2.2.2.2)) := hD
            refine lv_goto (tgt := 170) hx hb dX1_system_110 (by decide) ?_
            exact rVret (u := (st.1, st.2.1, st.2.2.1, st.2.2.2.1, (1 : Int32), st.2.2.2.2.2.1 &&& (262144 : Int32), st.2.2.2.2.2.2.1, st.2.2.2.2.2.2.2.1, st.2.2.2.2.2.2.2.2.1, st.2.2.2.2.2.2.2.2.2.1, st.2.2.2.2.2.2.2.2.2.2.1, st.2.2.2.2.2.2.2.2.2.2.2.1, st.2.2.2.2.2.2.2.2.2.2.2.2.1, st.2.2.2.2.2.2.2.2.2.2.2.2.2.1, st.2.2.2.2.2.2.2.2.2.2.2.2.2.2.1, st.2.2.2.2.2.2.2.2.2.2.2.2.2.2.2.1, st.2.2.2.2.2.2.2.2.1, st.2.2.2.2.2.2.2.2.2.2.2.2.2.2.2.2.2)) hx hb hr hlocks (by exact (((if_neg c1).trans ((if_neg c2).trans ((if_neg c3).trans ((if_pos c4).trans ((if_neg c17).trans rfl)))))).symm) hK hP hD hS dX1_system_170
      · refine lv_aload_n hx hb dX1_system_56 rfl (lv_at hl 0 rfl) ?_
        refine lv_iconst (v := 2) hx hb dX1_system_57 (by decide) ?_
        refine lv_iload_n hx hb dX1_system_58 rfl (lv_at hl 1 rfl) ?_
        refine rMv (As := [.int 2, .int p1]) (rest := []) (f := r_trap st (2 : Int32) p1) ⟨hx, hb, hml, hown, hts⟩ (cr_trap l dC dI cI h0 qme0 qre1 tN tB H.size st (2 : Int32) p1) (cwV 2 hts (gV mL_1_93 mI_1_trap mX_1_trap mN_1 mB_1_trap) rfl rfl rfl (by decide +kernel) ⟨Nat.le_of_ble_eq_true rfl, Nat.le_of_ble_eq_true rfl⟩) hK hP hD hS hZ rfl hl.1 rfl (Nat.le_of_ble_eq_true rfl) dX1_system_59 ⟨Nat.zero_le _, Nat.zero_le _⟩ (fun z18 ez18 H locs hP hD hS => ?_)
        have hP : va_P (dC, dI) vwCl (rW cI h0 qme0 qre1 z18) H := hP
        have hD : va_D (rA h0 qme0 qre1 s.heap.size) (rW cI h0 qme0 qre1 z18) := hD
        refine lv_goto (tgt := 170) hx hb dX1_system_62 (by decide) ?_
        exact rVret (u := z18) hx hb hr hlocks (by subst ez18; exact (((if_neg c1).trans ((if_neg c2).trans ((if_pos c3).trans rfl)))).symm) hK hP hD hS dX1_system_170
    · refine lv_aload_n hx hb dX1_system_37 rfl (lv_at hl 0 rfl) ?_
      refine lv_iconst (v := 3) hx hb dX1_system_38 (by decide) ?_
      refine lv_aload_n hx hb dX1_system_39 rfl (lv_at hl 0 rfl) ?_
      refine va_get (D := (dC, dI)) (ci := 1) (v := .int st.2.2.2.1) (C := "PagedHartModel") (T := TX1) (N := 18) hx hb hts mU1 hown hK hP 0 rfl rfl 3 (by decide) (hts _ mF_1_75) (fun _ h9 => h9) rfl dX1_system_40 ?_
      refine rMv (As := [.int 3, .int st.2.2.2.1]) (rest := []) (f := r_trap st (3 : Int32) st.2.2.2.1) ⟨hx, hb, hml, hown, hts⟩ (cr_trap l dC dI cI h0 qme0 qre1 tN tB H.size st (3 : Int32) st.2.2.2.1) (cwV 2 hts (gV mL_1_93 mI_1_trap mX_1_trap mN_1 mB_1_trap) rfl rfl rfl (by decide +kernel) ⟨Nat.le_of_ble_eq_true rfl, Nat.le_of_ble_eq_true rfl⟩) hK hP hD hS hZ rfl hl.1 rfl (Nat.le_of_ble_eq_true rfl) dX1_system_43 ⟨Nat.zero_le _, Nat.zero_le _⟩ (fun z19 ez19 H locs hP hD hS => ?_)
      have hP : va_P (dC, dI) vwCl (rW cI h0 qme0 qre1 z19) H := hP
      have hD : va_D (rA h0 qme0 qre1 s.heap.size) (rW cI h0 qme0 qre1 z19) := hD
      refine lv_goto (tgt := 170) hx hb dX1_system_46 (by decide) ?_
      exact rVret (u := z19) hx hb hr hlocks (by subst ez19; exact (((if_neg c1).trans ((if_pos c2).trans rfl))).symm) hK hP hD hS dX1_system_170
  · refine lv_aload_n hx hb dX1_system_6 rfl (lv_at hl 0 rfl) ?_
    refine va_get (D := (dC, dI)) (ci := 1) (v := .int st.2.2.2.2.1) (C := "PagedHartModel") (T := TX1) (N := 18) hx hb hts mU1 hown hK hP 0 rfl rfl 4 (by decide) (hts _ mF_1_17) (fun _ h9 => h9) rfl dX1_system_7 ?_
    refine lv_if_ne (tgt := 23) hx hb dX1_system_10 (by decide) (fun c20 => ?_) (fun c20 => ?_)
    · refine lv_aload_n hx hb dX1_system_23 rfl (lv_at hl 0 rfl) ?_
      refine lv_iconst (v := 1) hx hb dX1_system_24 (by decide) ?_
      refine va_put (D := (dC, dI)) (ci := 1) (v := .int 1) (ty := .boolean) (C := "PagedHartModel") (T := TX1) (N := 18) hx hb hts mU1 tyX1 tyX1_ok nmX1 hown hK hP hD hS 0 rfl rfl 14 (by decide) (hts _ mF_1_27) (fun _ h9 => h9) rfl (by decide +kernel) rfl rfl (Nat.le_of_ble_eq_true rfl) dX1_system_25 (fun H locs hP hD hS => ?_)
      have hP : va_P (dC, dI) vwCl (rW cI h0 qme0 qre1 (st.1, st.2.1, st.2.2.1, st.2.2.2.1, st.2.2.2.2.1, st.2.2.2.2.2.1, st.2.2.2.2.2.2.1, st.2.2.2.2.2.2.2.1, st.2.2.2.2.2.2.2.2.1, st.2.2.2.2.2.2.2.2.2.1, st.2.2.2.2.2.2.2.2.2.2.1, st.2.2.2.2.2.2.2.2.2.2.2.1, st.2.2.2.2.2.2.2.2.2.2.2.2.1, st.2.2.2.2.2.2.2.2.2.2.2.2.2.1, (1 : Int32), st.2.2.2.2.2.2.2.2.2.2.2.2.2.2.2.1, st.2.2.2.2.2.2.2.2.2.2.2.2.2.2.2.2.1, st.2.2.2.2.2.2.2.2.2.2.2.2.2.2.2.2.2)) H := hP
      have hD : va_D (rA h0 qme0 qre1 s.heap.size) (rW cI h0 qme0 qre1 (st.1, st.2.1, st.2.2.1, st.2.2.2.1, st.2.2.2.2.1, st.2.2.2.2.2.1, st.2.2.2.2.2.2.1, st.2.2.2.2.2.2.2.1, st.2.2.2.2.2.2.2.2.1, st.2.2.2.2.2.2.2.2.2.1, st.2.2.2.2.2.2.2.2.2.2.1, st.2.2.2.2.2.2.2.2.2.2.2.1, st.2.2.2.2.2.2.2.2.2.2.2.2.1, st.2.2.2.2.2.2.2.2.2.2.2.2.2.1, (1 : Int32), st.2.2.2.2.2.2.2.2.2.2.2.2.2.2.2.1, st.2.2.2.2.2.2.2.2.2.2.2.2.2.2.2.2.1, st.2.2.2.2.2.2.2.2.2.2.2.2.2.2.2.2.2)) := hD
      refine lv_goto (tgt := 170) hx hb dX1_system_28 (by decide) ?_
      exact rVret (u := (st.1, st.2.1, st.2.2.1, st.2.2.2.1, st.2.2.2.2.1, st.2.2.2.2.2.1, st.2.2.2.2.2.2.1, st.2.2.2.2.2.2.2.1, st.2.2.2.2.2.2.2.2.1, st.2.2.2.2.2.2.2.2.2.1, st.2.2.2.2.2.2.2.2.2.2.1, st.2.2.2.2.2.2.2.2.2.2.2.1, st.2.2.2.2.2.2.2.2.2.2.2.2.1, st.2.2.2.2.2.2.2.2.2.2.2.2.2.1, (1 : Int32), st.2.2.2.2.2.2.2.2.2.2.2.2.2.2.2.1, st.2.2.2.2.2.2.2.2.2.2.2.2.2.2.2.2.1, st.2.2.2.2.2.2.2.2.2.2.2.2.2.2.2.2.2)) hx hb hr hlocks (by exact (((if_pos c1).trans ((if_neg c20).trans rfl))).symm) hK hP hD hS dX1_system_170
    · refine lv_aload_n hx hb dX1_system_13 rfl (lv_at hl 0 rfl) ?_
      refine lv_bipush (v := 8) hx hb dX1_system_14 (by decide) ?_
      refine lv_iconst (v := 0) hx hb dX1_system_16 (by decide) ?_
      refine rMv (As := [.int 8, .int 0]) (rest := []) (f := r_trap st (8 : Int32) (0 : Int32)) ⟨hx, hb, hml, hown, hts⟩ (cr_trap l dC dI cI h0 qme0 qre1 tN tB H.size st (8 : Int32) (0 : Int32)) (cwV 2 hts (gV mL_1_93 mI_1_trap mX_1_trap mN_1 mB_1_trap) rfl rfl rfl (by decide +kernel) ⟨Nat.le_of_ble_eq_true rfl, Nat.le_of_ble_eq_true rfl⟩) hK hP hD hS hZ rfl hl.1 rfl (Nat.le_of_ble_eq_true rfl) dX1_system_17 ⟨Nat.zero_le _, Nat.zero_le _⟩ (fun z21 ez21 H locs hP hD hS => ?_)
      have hP : va_P (dC, dI) vwCl (rW cI h0 qme0 qre1 z21) H := hP
      have hD : va_D (rA h0 qme0 qre1 s.heap.size) (rW cI h0 qme0 qre1 z21) := hD
      refine lv_goto (tgt := 170) hx hb dX1_system_20 (by decide) ?_
      exact rVret (u := z21) hx hb hr hlocks (by subst ez21; exact (((if_pos c1).trans ((if_pos c20).trans rfl))).symm) hK hP hD hS dX1_system_170

def r_perform (st : RS) (p1 : Int32) : RS :=
  let x1 : Int32 := r_bits p1 (7 : Int32) (11 : Int32)
  let x2 : Int32 := r_bits p1 (12 : Int32) (14 : Int32)
  let x3 : Int32 := r_bits p1 (15 : Int32) (19 : Int32)
  let x4 : Int32 := st.2.2.1 x3.toNatClampNeg
  let x5 : Int32 := r_bits p1 (20 : Int32) (24 : Int32)
  let x6 : Int32 := st.2.2.1 x5.toNatClampNeg
  let x7 : Int32 := p1 >>> ((20 : Int32) &&& 31)
  let x8 : Int32 := r_bits p1 (0 : Int32) (6 : Int32)
  if x8 = 3 then
    let z10 : RS := r_load st p1 x2 x1 (x4 + x7)
    z10
  else
    if x8 = 15 then
      if x2 = 0 then
        st
      else
        let z13 : RS := r_trap st (2 : Int32) p1
        z13
    else
      if x8 = 19 then
        let z15 : RS := r_withNumber st p1 x2 x1 x4 x7
        z15
      else
        if x8 = 23 then
          let x17 : Int32 := r_bits p1 (0 : Int32) (11 : Int32)
          let z18 : RS := r_set st x1 ((st.2.2.2.1 + p1) - x17)
          z18
        else
          if x8 = 35 then
            let z20 : RS := r_store st p1 x2 ((x4 + ((p1 >>> ((25 : Int32) &&& 31)) * (32 : Int32))) + x1) x6
            z20
          else
            if x8 = 51 then
              let z22 : RS := r_withTwo st p1 x2 x1 x4 x6
              z22
            else
              if x8 = 55 then
                let x24 : Int32 := r_bits p1 (0 : Int32) (11 : Int32)
                let z25 : RS := r_set st x1 (p1 - x24)
                z25
              else
                if x8 = 99 then
                  let z27 : RS := r_branch st p1 x2 x4 x6
                  z27
                else
                  if x8 = 103 then
                    if x2 = 0 then
                      let x31 : Int32 := x4 + x7
                      let x32 : Int32 := r_bits x31 (0 : Int32) (0 : Int32)
                      let z33 : RS := r_jump st (x31 - x32) x1
                      z33
                    else
                      let z30 : RS := r_trap st (2 : Int32) p1
                      z30
                  else
                    if x8 = 111 then
                      let x35 : Int32 := r_far p1
                      let z36 : RS := r_jump st (st.2.2.2.1 + x35) x1
                      z36
                    else
                      if x8 = 115 then
                        let z38 : RS := r_system st p1 x2 x1 x4
                        z38
                      else
                        let z39 : RS := r_trap st (2 : Int32) p1
                        z39
set_option maxHeartbeats 4000000 in
set_option maxRecDepth 100000 in
theorem cr_perform (l : Launch) (dC : Nat → ClassId) (dI : Nat → Nat → Nat) (cI h0 qme0 qre1 tN tB : Nat) (sz : Nat) (st : RS) (p1 : Int32)  : Met l yX1_perform (.code yX1_perform cX1_perform 8 none :: gBIG) ({ frames := 6, cells := 0, slots := 0, locals := 147 }) (va_Pc [.ref h0, .int p1] (rPre dC dI cI h0 qme0 qre1 tN tB sz st)) (va_Qv (fun v => v = r_perform st p1) (rB dC dI cI h0 qme0 qre1 (rA h0 qme0 qre1 sz)) (rA h0 qme0 qre1 sz)) 0 0 (rA h0 qme0 qre1 sz) := by
  refine Met.ofW (cc := cX1_perform) (maxL := 8) (ret := none) (by decide) rfl ?_
  intro p e s m args below meth c s₁ B hml hv
  obtain ⟨rfl, hsz, hP, hK, hD0, hZ⟩ := hv
  have hx := B.exec
  have hb := B.bytes
  have hr := B.returns
  have hts : ∀ w ∈ gBIG, w.before _ s = true := fun w h => atoms_spec (ws := (.code yX1_perform cX1_perform 8 none :: gBIG)) B.pre w (List.mem_cons_of_mem _ h)
  have hown : s.vm.findClass "PagedHartModel" = some m.cls := findClass_of_methodNamed B.named
  have hlocks := B.notSynchronized
  subst hsz
  have hD : va_D (rA h0 qme0 qre1 s.heap.size) (rW cI h0 qme0 qre1 st) := rD hD0
  have hS : va_S (rA h0 qme0 qre1 s.heap.size) s.heap s.heap [] := va_S.rf
  have hP : va_P (dC, dI) vwCl (rW cI h0 qme0 qre1 st) s.heap := hP
  have hl := lv_entry ([.ref h0, .int p1]) (n := 8) (Nat.le_of_ble_eq_true rfl)
  rw [lg_entry_eq]
  generalize (lg_sl ([.ref h0, .int p1]) ++ List.replicate (8 - (lg_sl ([.ref h0, .int p1])).length) Slot.unset).toArray = ls at hl ⊢
  refine jgo (P := fun H locs => va_P (dC, dI) vwCl (rW cI h0 qme0 qre1 st) H ∧ va_S (rA h0 qme0 qre1 s.heap.size) s.heap H locs) ⟨hP, hS⟩ (fun H locs hPS => ?_)
  obtain ⟨hP, hS⟩ := hPS
  have hl : lv_has ls 8 [(0, .ref h0), (1, .int p1)] := hl
  refine lv_iload_n hx hb dX1_perform_0 rfl (lv_at hl 1 rfl) ?_
  refine lv_bipush (v := 7) hx hb dX1_perform_1 (by decide) ?_
  refine lv_bipush (v := 11) hx hb dX1_perform_3 (by decide) ?_
  refine W.callR (W.runS (As := [.int p1, .int 7, .int 11]) (rest := []) ⟨hx, hb, hml, hown, hts⟩ (cr_bits l p1 (7 : Int32) (11 : Int32)) (cwS 3 hts (gS mL_1_46 mS_1_bits mN_1 mB_1_bits) rfl rfl rfl (by decide +kernel) ⟨Nat.le_of_ble_eq_true rfl, Nat.le_of_ble_eq_true rfl⟩) ⟨jblind, fun _ _ _ => ⟨rfl, trivial⟩⟩ rfl rfl hl.1 rfl (lv_room (Nat.le_of_ble_eq_true rfl)) dX1_perform_5 ⟨Nat.zero_le _, Nat.zero_le _⟩) ?_
  refine W.eq (g2 := F0 m 8 ls (.int (r_bits p1 (7 : Int32) (11 : Int32)) :: [])) rfl ?_
  refine lv_topi (fun x1 ex1 => ?_)
  refine lv_istore_n (lv' := [(2, .int x1), (0, .ref h0), (1, .int p1)]) hx hb dX1_perform_8 rfl hl (by decide) rfl (fun ls hl => ?_)
  refine lv_iload_n hx hb dX1_perform_9 rfl (lv_at hl 2 rfl) ?_
  refine lv_bipush (v := 12) hx hb dX1_perform_10 (by decide) ?_
  refine lv_bipush (v := 14) hx hb dX1_perform_12 (by decide) ?_
  refine W.callR (W.runS (As := [.int p1, .int 12, .int 14]) (rest := []) ⟨hx, hb, hml, hown, hts⟩ (cr_bits l p1 (12 : Int32) (14 : Int32)) (cwS 3 hts (gS mL_1_46 mS_1_bits mN_1 mB_1_bits) rfl rfl rfl (by decide +kernel) ⟨Nat.le_of_ble_eq_true rfl, Nat.le_of_ble_eq_true rfl⟩) ⟨jblind, fun _ _ _ => ⟨rfl, trivial⟩⟩ rfl rfl hl.1 rfl (lv_room (Nat.le_of_ble_eq_true rfl)) dX1_perform_14 ⟨Nat.zero_le _, Nat.zero_le _⟩) ?_
  refine W.eq (g2 := F0 m 17 ls (.int (r_bits p1 (12 : Int32) (14 : Int32)) :: [])) rfl ?_
  refine lv_topi (fun x2 ex2 => ?_)
  refine lv_istore_n (lv' := [(3, .int x2), (2, .int x1), (0, .ref h0), (1, .int p1)]) hx hb dX1_perform_17 rfl hl (by decide) rfl (fun ls hl => ?_)
  refine lv_aload_n hx hb dX1_perform_18 rfl (lv_at hl 2 rfl) ?_
  refine va_get (D := (dC, dI)) (ci := 1) (v := .ref qre1) (C := "PagedHartModel") (T := TX1) (N := 18) hx hb hts mU1 hown hK hP 0 rfl rfl 2 (by decide) (hts _ mF_1_14) (fun _ h9 => h9) rfl dX1_perform_19 ?_
  refine lv_iload_n hx hb dX1_perform_22 rfl (lv_at hl 3 rfl) ?_
  refine lv_bipush (v := 15) hx hb dX1_perform_23 (by decide) ?_
  refine lv_bipush (v := 19) hx hb dX1_perform_25 (by decide) ?_
  refine W.callR (W.runS (As := [.int p1, .int 15, .int 19]) (rest := [.ref qre1]) ⟨hx, hb, hml, hown, hts⟩ (cr_bits l p1 (15 : Int32) (19 : Int32)) (cwS 3 hts (gS mL_1_46 mS_1_bits mN_1 mB_1_bits) rfl rfl rfl (by decide +kernel) ⟨Nat.le_of_ble_eq_true rfl, Nat.le_of_ble_eq_true rfl⟩) ⟨jblind, fun _ _ _ => ⟨rfl, trivial⟩⟩ rfl rfl hl.1 rfl (lv_room (Nat.le_of_ble_eq_true rfl)) dX1_perform_27 ⟨Nat.zero_le _, Nat.zero_le _⟩) ?_
  refine W.eq (g2 := F0 m 30 ls (.int (r_bits p1 (15 : Int32) (19 : Int32)) :: [.ref qre1])) rfl ?_
  refine lv_topi (fun x3 ex3 => ?_)
  refine va_iald (D := (dC, dI)) hx hb hK hP 2 0 rfl rfl (by rw [ex3]; exact r_in5 _ _ _ (by decide)) dX1_perform_30 ?_
  refine lv_topi (fun x4 ex4 => ?_)
  refine lv_istore (lv' := [(4, .int x4), (3, .int x2), (2, .int x1), (0, .ref h0), (1, .int p1)]) hx hb dX1_perform_31 hl (by decide) rfl (fun ls hl => ?_)
  refine lv_aload_n hx hb dX1_perform_33 rfl (lv_at hl 3 rfl) ?_
  refine va_get (D := (dC, dI)) (ci := 1) (v := .ref qre1) (C := "PagedHartModel") (T := TX1) (N := 18) hx hb hts mU1 hown hK hP 0 rfl rfl 2 (by decide) (hts _ mF_1_14) (fun _ h9 => h9) rfl dX1_perform_34 ?_
  refine lv_iload_n hx hb dX1_perform_37 rfl (lv_at hl 4 rfl) ?_
  refine lv_bipush (v := 20) hx hb dX1_perform_38 (by decide) ?_
  refine lv_bipush (v := 24) hx hb dX1_perform_40 (by decide) ?_
  refine W.callR (W.runS (As := [.int p1, .int 20, .int 24]) (rest := [.ref qre1]) ⟨hx, hb, hml, hown, hts⟩ (cr_bits l p1 (20 : Int32) (24 : Int32)) (cwS 3 hts (gS mL_1_46 mS_1_bits mN_1 mB_1_bits) rfl rfl rfl (by decide +kernel) ⟨Nat.le_of_ble_eq_true rfl, Nat.le_of_ble_eq_true rfl⟩) ⟨jblind, fun _ _ _ => ⟨rfl, trivial⟩⟩ rfl rfl hl.1 rfl (lv_room (Nat.le_of_ble_eq_true rfl)) dX1_perform_42 ⟨Nat.zero_le _, Nat.zero_le _⟩) ?_
  refine W.eq (g2 := F0 m 45 ls (.int (r_bits p1 (20 : Int32) (24 : Int32)) :: [.ref qre1])) rfl ?_
  refine lv_topi (fun x5 ex5 => ?_)
  refine va_iald (D := (dC, dI)) hx hb hK hP 2 0 rfl rfl (by rw [ex5]; exact r_in5 _ _ _ (by decide)) dX1_perform_45 ?_
  refine lv_topi (fun x6 ex6 => ?_)
  refine lv_istore (lv' := [(5, .int x6), (4, .int x4), (3, .int x2), (2, .int x1), (0, .ref h0), (1, .int p1)]) hx hb dX1_perform_46 hl (by decide) rfl (fun ls hl => ?_)
  refine lv_iload_n hx hb dX1_perform_48 rfl (lv_at hl 5 rfl) ?_
  refine lv_bipush (v := 20) hx hb dX1_perform_49 (by decide) ?_
  refine lv_ishr hx hb dX1_perform_51 ?_
  refine lv_topi (fun x7 ex7 => ?_)
  refine lv_istore (lv' := [(6, .int x7), (5, .int x6), (4, .int x4), (3, .int x2), (2, .int x1), (0, .ref h0), (1, .int p1)]) hx hb dX1_perform_52 hl (by decide) rfl (fun ls hl => ?_)
  refine lv_iload_n hx hb dX1_perform_54 rfl (lv_at hl 6 rfl) ?_
  refine lv_iconst (v := 0) hx hb dX1_perform_55 (by decide) ?_
  refine lv_bipush (v := 6) hx hb dX1_perform_56 (by decide) ?_
  refine W.callR (W.runS (As := [.int p1, .int 0, .int 6]) (rest := []) ⟨hx, hb, hml, hown, hts⟩ (cr_bits l p1 (0 : Int32) (6 : Int32)) (cwS 3 hts (gS mL_1_46 mS_1_bits mN_1 mB_1_bits) rfl rfl rfl (by decide +kernel) ⟨Nat.le_of_ble_eq_true rfl, Nat.le_of_ble_eq_true rfl⟩) ⟨jblind, fun _ _ _ => ⟨rfl, trivial⟩⟩ rfl rfl hl.1 rfl (lv_room (Nat.le_of_ble_eq_true rfl)) dX1_perform_58 ⟨Nat.zero_le _, Nat.zero_le _⟩) ?_
  refine W.eq (g2 := F0 m 61 ls (.int (r_bits p1 (0 : Int32) (6 : Int32)) :: [])) rfl ?_
  refine lv_topi (fun x8 ex8 => ?_)
  by_cases c9 : x8 = 3
  · refine lv_lookup (tgt := 267) (off := 206) hx hb dX1_perform_61 (by decide) (by rw [c9]; decide) (by decide) ?_
    refine lv_aload_n hx hb dX1_perform_267 rfl (lv_at hl 5 rfl) ?_
    refine lv_iload_n hx hb dX1_perform_268 rfl (lv_at hl 6 rfl) ?_
    refine lv_iload_n hx hb dX1_perform_269 rfl (lv_at hl 3 rfl) ?_
    refine lv_iload_n hx hb dX1_perform_270 rfl (lv_at hl 4 rfl) ?_
    refine lv_iload hx hb dX1_perform_271 (lv_at hl 2 rfl) ?_
    refine lv_iload hx hb dX1_perform_273 (lv_at hl 0 rfl) ?_
    refine lv_iadd hx hb dX1_perform_275 ?_
    refine rMv (As := [.int p1, .int x2, .int x1, .int (x4 + x7)]) (rest := []) (f := r_load st p1 x2 x1 (x4 + x7)) ⟨hx, hb, hml, hown, hts⟩ (cr_load l dC dI cI h0 qme0 qre1 tN tB H.size st p1 x2 x1 (x4 + x7) (by rw [ex1]; exact r_in5 _ _ _ (by decide))) (cwV 4 hts (gV mL_1_125 mI_1_load mX_1_load mN_1 mB_1_load) rfl rfl rfl (by decide +kernel) ⟨Nat.le_of_ble_eq_true rfl, Nat.le_of_ble_eq_true rfl⟩) hK hP hD hS hZ rfl hl.1 rfl (Nat.le_of_ble_eq_true rfl) dX1_perform_276 ⟨Nat.zero_le _, Nat.zero_le _⟩ (fun z10 ez10 H locs hP hD hS => ?_)
    have hP : va_P (dC, dI) vwCl (rW cI h0 qme0 qre1 z10) H := hP
    have hD : va_D (rA h0 qme0 qre1 s.heap.size) (rW cI h0 qme0 qre1 z10) := hD
    refine lv_goto (tgt := 364) hx hb dX1_perform_279 (by decide) ?_
    exact rVret (u := z10) hx hb hr hlocks (by subst ez10 ex8 ex7 ex6 ex5 ex4 ex3 ex2 ex1; exact (((if_pos c9).trans rfl)).symm) hK hP hD hS dX1_perform_364
  by_cases c11 : x8 = 15
  · refine lv_lookup (tgt := 333) (off := 272) hx hb dX1_perform_61 (by decide) (by rw [c11]; decide) (by decide) ?_
    refine lv_iload_n hx hb dX1_perform_333 rfl (lv_at hl 3 rfl) ?_
    refine lv_if_eq (tgt := 364) hx hb dX1_perform_334 (by decide) (fun c12 => ?_) (fun c12 => ?_)
    · exact rVret (u := st) hx hb hr hlocks (by subst ex8 ex7 ex6 ex5 ex4 ex3 ex2 ex1; exact (((if_neg c9).trans ((if_pos c11).trans ((if_pos c12).trans rfl)))).symm) hK hP hD hS dX1_perform_364
    · refine lv_aload_n hx hb dX1_perform_337 rfl (lv_at hl 5 rfl) ?_
      refine lv_iconst (v := 2) hx hb dX1_perform_338 (by decide) ?_
      refine lv_iload_n hx hb dX1_perform_339 rfl (lv_at hl 6 rfl) ?_
      refine rMv (As := [.int 2, .int p1]) (rest := []) (f := r_trap st (2 : Int32) p1) ⟨hx, hb, hml, hown, hts⟩ (cr_trap l dC dI cI h0 qme0 qre1 tN tB H.size st (2 : Int32) p1) (cwV 2 hts (gV mL_1_93 mI_1_trap mX_1_trap mN_1 mB_1_trap) rfl rfl rfl (by decide +kernel) ⟨Nat.le_of_ble_eq_true rfl, Nat.le_of_ble_eq_true rfl⟩) hK hP hD hS hZ rfl hl.1 rfl (Nat.le_of_ble_eq_true rfl) dX1_perform_340 ⟨Nat.zero_le _, Nat.zero_le _⟩ (fun z13 ez13 H locs hP hD hS => ?_)
      have hP : va_P (dC, dI) vwCl (rW cI h0 qme0 qre1 z13) H := hP
      have hD : va_D (rA h0 qme0 qre1 s.heap.size) (rW cI h0 qme0 qre1 z13) := hD
      refine lv_goto (tgt := 364) hx hb dX1_perform_343 (by decide) ?_
      exact rVret (u := z13) hx hb hr hlocks (by subst ez13 ex8 ex7 ex6 ex5 ex4 ex3 ex2 ex1; exact (((if_neg c9).trans ((if_pos c11).trans ((if_neg c12).trans rfl)))).symm) hK hP hD hS dX1_perform_364
  by_cases c14 : x8 = 19
  · refine lv_lookup (tgt := 305) (off := 244) hx hb dX1_perform_61 (by decide) (by rw [c14]; decide) (by decide) ?_
    refine lv_aload_n hx hb dX1_perform_305 rfl (lv_at hl 5 rfl) ?_
    refine lv_iload_n hx hb dX1_perform_306 rfl (lv_at hl 6 rfl) ?_
    refine lv_iload_n hx hb dX1_perform_307 rfl (lv_at hl 3 rfl) ?_
    refine lv_iload_n hx hb dX1_perform_308 rfl (lv_at hl 4 rfl) ?_
    refine lv_iload hx hb dX1_perform_309 (lv_at hl 2 rfl) ?_
    refine lv_iload hx hb dX1_perform_311 (lv_at hl 0 rfl) ?_
    refine rMv (As := [.int p1, .int x2, .int x1, .int x4, .int x7]) (rest := []) (f := r_withNumber st p1 x2 x1 x4 x7) ⟨hx, hb, hml, hown, hts⟩ (cr_withNumber l dC dI cI h0 qme0 qre1 tN tB H.size st p1 x2 x1 x4 x7 (by rw [ex1]; exact r_in5 _ _ _ (by decide))) (cwV 5 hts (gV mL_1_131 mI_1_withNumber mX_1_withNumber mN_1 mB_1_withNumber) rfl rfl rfl (by decide +kernel) ⟨Nat.le_of_ble_eq_true rfl, Nat.le_of_ble_eq_true rfl⟩) hK hP hD hS hZ rfl hl.1 rfl (Nat.le_of_ble_eq_true rfl) dX1_perform_313 ⟨Nat.zero_le _, Nat.zero_le _⟩ (fun z15 ez15 H locs hP hD hS => ?_)
    have hP : va_P (dC, dI) vwCl (rW cI h0 qme0 qre1 z15) H := hP
    have hD : va_D (rA h0 qme0 qre1 s.heap.size) (rW cI h0 qme0 qre1 z15) := hD
    refine lv_goto (tgt := 364) hx hb dX1_perform_316 (by decide) ?_
    exact rVret (u := z15) hx hb hr hlocks (by subst ez15 ex8 ex7 ex6 ex5 ex4 ex3 ex2 ex1; exact (((if_neg c9).trans ((if_neg c11).trans ((if_pos c14).trans rfl)))).symm) hK hP hD hS dX1_perform_364
  by_cases c16 : x8 = 23
  · refine lv_lookup (tgt := 177) (off := 116) hx hb dX1_perform_61 (by decide) (by rw [c16]; decide) (by decide) ?_
    refine lv_aload_n hx hb dX1_perform_177 rfl (lv_at hl 5 rfl) ?_
    refine lv_iload_n hx hb dX1_perform_178 rfl (lv_at hl 4 rfl) ?_
    refine lv_aload_n hx hb dX1_perform_179 rfl (lv_at hl 5 rfl) ?_
    refine va_get (D := (dC, dI)) (ci := 1) (v := .int st.2.2.2.1) (C := "PagedHartModel") (T := TX1) (N := 18) hx hb hts mU1 hown hK hP 0 rfl rfl 3 (by decide) (hts _ mF_1_75) (fun _ h9 => h9) rfl dX1_perform_180 ?_
    refine lv_iload_n hx hb dX1_perform_183 rfl (lv_at hl 6 rfl) ?_
    refine lv_iadd hx hb dX1_perform_184 ?_
    refine lv_iload_n hx hb dX1_perform_185 rfl (lv_at hl 6 rfl) ?_
    refine lv_iconst (v := 0) hx hb dX1_perform_186 (by decide) ?_
    refine lv_bipush (v := 11) hx hb dX1_perform_187 (by decide) ?_
    refine W.callR (W.runS (As := [.int p1, .int 0, .int 11]) (rest := [.int (st.2.2.2.1 + p1), .int x1, .ref h0]) ⟨hx, hb, hml, hown, hts⟩ (cr_bits l p1 (0 : Int32) (11 : Int32)) (cwS 3 hts (gS mL_1_46 mS_1_bits mN_1 mB_1_bits) rfl rfl rfl (by decide +kernel) ⟨Nat.le_of_ble_eq_true rfl, Nat.le_of_ble_eq_true rfl⟩) ⟨jblind, fun _ _ _ => ⟨rfl, trivial⟩⟩ rfl rfl hl.1 rfl (lv_room (Nat.le_of_ble_eq_true rfl)) dX1_perform_189 ⟨Nat.zero_le _, Nat.zero_le _⟩) ?_
    refine W.eq (g2 := F0 m 192 ls (.int (r_bits p1 (0 : Int32) (11 : Int32)) :: [.int (st.2.2.2.1 + p1), .int x1, .ref h0])) rfl ?_
    refine lv_topi (fun x17 ex17 => ?_)
    refine lv_isub hx hb dX1_perform_192 ?_
    refine rMv (As := [.int x1, .int ((st.2.2.2.1 + p1) - x17)]) (rest := []) (f := r_set st x1 ((st.2.2.2.1 + p1) - x17)) ⟨hx, hb, hml, hown, hts⟩ (cr_set l dC dI cI h0 qme0 qre1 tN tB H.size st x1 ((st.2.2.2.1 + p1) - x17) (by rw [ex1]; exact r_in5 _ _ _ (by decide))) (cwV 2 hts (gV mL_1_112 mI_1_set mX_1_set mN_1 mB_1_set) rfl rfl rfl (by decide +kernel) ⟨Nat.le_of_ble_eq_true rfl, Nat.le_of_ble_eq_true rfl⟩) hK hP hD hS hZ rfl hl.1 rfl (Nat.le_of_ble_eq_true rfl) dX1_perform_193 ⟨Nat.zero_le _, Nat.zero_le _⟩ (fun z18 ez18 H locs hP hD hS => ?_)
    have hP : va_P (dC, dI) vwCl (rW cI h0 qme0 qre1 z18) H := hP
    have hD : va_D (rA h0 qme0 qre1 s.heap.size) (rW cI h0 qme0 qre1 z18) := hD
    refine lv_goto (tgt := 364) hx hb dX1_perform_196 (by decide) ?_
    exact rVret (u := z18) hx hb hr hlocks (by subst ez18 ex17 ex8 ex7 ex6 ex5 ex4 ex3 ex2 ex1; exact (((if_neg c9).trans ((if_neg c11).trans ((if_neg c14).trans ((if_pos c16).trans rfl))))).symm) hK hP hD hS dX1_perform_364
  by_cases c19 : x8 = 35
  · refine lv_lookup (tgt := 282) (off := 221) hx hb dX1_perform_61 (by decide) (by rw [c19]; decide) (by decide) ?_
    refine lv_aload_n hx hb dX1_perform_282 rfl (lv_at hl 5 rfl) ?_
    refine lv_iload_n hx hb dX1_perform_283 rfl (lv_at hl 6 rfl) ?_
    refine lv_iload_n hx hb dX1_perform_284 rfl (lv_at hl 3 rfl) ?_
    refine lv_iload hx hb dX1_perform_285 (lv_at hl 2 rfl) ?_
    refine lv_iload_n hx hb dX1_perform_287 rfl (lv_at hl 6 rfl) ?_
    refine lv_bipush (v := 25) hx hb dX1_perform_288 (by decide) ?_
    refine lv_ishr hx hb dX1_perform_290 ?_
    refine lv_bipush (v := 32) hx hb dX1_perform_291 (by decide) ?_
    refine lv_imul hx hb dX1_perform_293 ?_
    refine lv_iadd hx hb dX1_perform_294 ?_
    refine lv_iload_n hx hb dX1_perform_295 rfl (lv_at hl 4 rfl) ?_
    refine lv_iadd hx hb dX1_perform_296 ?_
    refine lv_iload hx hb dX1_perform_297 (lv_at hl 1 rfl) ?_
    refine rMv (As := [.int p1, .int x2, .int ((x4 + ((p1 >>> ((25 : Int32) &&& 31)) * (32 : Int32))) + x1), .int x6]) (rest := []) (f := r_store st p1 x2 ((x4 + ((p1 >>> ((25 : Int32) &&& 31)) * (32 : Int32))) + x1) x6) ⟨hx, hb, hml, hown, hts⟩ (cr_store l dC dI cI h0 qme0 qre1 tN tB H.size st p1 x2 ((x4 + ((p1 >>> ((25 : Int32) &&& 31)) * (32 : Int32))) + x1) x6) (cwV 4 hts (gV mL_1_128 mI_1_store mX_1_store mN_1 mB_1_store) rfl rfl rfl (by decide +kernel) ⟨Nat.le_of_ble_eq_true rfl, Nat.le_of_ble_eq_true rfl⟩) hK hP hD hS hZ rfl hl.1 rfl (Nat.le_of_ble_eq_true rfl) dX1_perform_299 ⟨Nat.zero_le _, Nat.zero_le _⟩ (fun z20 ez20 H locs hP hD hS => ?_)
    have hP : va_P (dC, dI) vwCl (rW cI h0 qme0 qre1 z20) H := hP
    have hD : va_D (rA h0 qme0 qre1 s.heap.size) (rW cI h0 qme0 qre1 z20) := hD
    refine lv_goto (tgt := 364) hx hb dX1_perform_302 (by decide) ?_
    exact rVret (u := z20) hx hb hr hlocks (by subst ez20 ex8 ex7 ex6 ex5 ex4 ex3 ex2 ex1; exact (((if_neg c9).trans ((if_neg c11).trans ((if_neg c14).trans ((if_neg c16).trans ((if_pos c19).trans rfl)))))).symm) hK hP hD hS dX1_perform_364
  by_cases c21 : x8 = 51
  · refine lv_lookup (tgt := 319) (off := 258) hx hb dX1_perform_61 (by decide) (by rw [c21]; decide) (by decide) ?_
    refine lv_aload_n hx hb dX1_perform_319 rfl (lv_at hl 5 rfl) ?_
    refine lv_iload_n hx hb dX1_perform_320 rfl (lv_at hl 6 rfl) ?_
    refine lv_iload_n hx hb dX1_perform_321 rfl (lv_at hl 3 rfl) ?_
    refine lv_iload_n hx hb dX1_perform_322 rfl (lv_at hl 4 rfl) ?_
    refine lv_iload hx hb dX1_perform_323 (lv_at hl 2 rfl) ?_
    refine lv_iload hx hb dX1_perform_325 (lv_at hl 1 rfl) ?_
    refine rMv (As := [.int p1, .int x2, .int x1, .int x4, .int x6]) (rest := []) (f := r_withTwo st p1 x2 x1 x4 x6) ⟨hx, hb, hml, hown, hts⟩ (cr_withTwo l dC dI cI h0 qme0 qre1 tN tB H.size st p1 x2 x1 x4 x6 (by rw [ex1]; exact r_in5 _ _ _ (by decide))) (cwV 5 hts (gV mL_1_135 mI_1_withTwo mX_1_withTwo mN_1 mB_1_withTwo) rfl rfl rfl (by decide +kernel) ⟨Nat.le_of_ble_eq_true rfl, Nat.le_of_ble_eq_true rfl⟩) hK hP hD hS hZ rfl hl.1 rfl (Nat.le_of_ble_eq_true rfl) dX1_perform_327 ⟨Nat.zero_le _, Nat.zero_le _⟩ (fun z22 ez22 H locs hP hD hS => ?_)
    have hP : va_P (dC, dI) vwCl (rW cI h0 qme0 qre1 z22) H := hP
    have hD : va_D (rA h0 qme0 qre1 s.heap.size) (rW cI h0 qme0 qre1 z22) := hD
    refine lv_goto (tgt := 364) hx hb dX1_perform_330 (by decide) ?_
    exact rVret (u := z22) hx hb hr hlocks (by subst ez22 ex8 ex7 ex6 ex5 ex4 ex3 ex2 ex1; exact (((if_neg c9).trans ((if_neg c11).trans ((if_neg c14).trans ((if_neg c16).trans ((if_neg c19).trans ((if_pos c21).trans rfl))))))).symm) hK hP hD hS dX1_perform_364
  by_cases c23 : x8 = 55
  · refine lv_lookup (tgt := 160) (off := 99) hx hb dX1_perform_61 (by decide) (by rw [c23]; decide) (by decide) ?_
    refine lv_aload_n hx hb dX1_perform_160 rfl (lv_at hl 5 rfl) ?_
    refine lv_iload_n hx hb dX1_perform_161 rfl (lv_at hl 4 rfl) ?_
    refine lv_iload_n hx hb dX1_perform_162 rfl (lv_at hl 6 rfl) ?_
    refine lv_iload_n hx hb dX1_perform_163 rfl (lv_at hl 6 rfl) ?_
    refine lv_iconst (v := 0) hx hb dX1_perform_164 (by decide) ?_
    refine lv_bipush (v := 11) hx hb dX1_perform_165 (by decide) ?_
    refine W.callR (W.runS (As := [.int p1, .int 0, .int 11]) (rest := [.int p1, .int x1, .ref h0]) ⟨hx, hb, hml, hown, hts⟩ (cr_bits l p1 (0 : Int32) (11 : Int32)) (cwS 3 hts (gS mL_1_46 mS_1_bits mN_1 mB_1_bits) rfl rfl rfl (by decide +kernel) ⟨Nat.le_of_ble_eq_true rfl, Nat.le_of_ble_eq_true rfl⟩) ⟨jblind, fun _ _ _ => ⟨rfl, trivial⟩⟩ rfl rfl hl.1 rfl (lv_room (Nat.le_of_ble_eq_true rfl)) dX1_perform_167 ⟨Nat.zero_le _, Nat.zero_le _⟩) ?_
    refine W.eq (g2 := F0 m 170 ls (.int (r_bits p1 (0 : Int32) (11 : Int32)) :: [.int p1, .int x1, .ref h0])) rfl ?_
    refine lv_topi (fun x24 ex24 => ?_)
    refine lv_isub hx hb dX1_perform_170 ?_
    refine rMv (As := [.int x1, .int (p1 - x24)]) (rest := []) (f := r_set st x1 (p1 - x24)) ⟨hx, hb, hml, hown, hts⟩ (cr_set l dC dI cI h0 qme0 qre1 tN tB H.size st x1 (p1 - x24) (by rw [ex1]; exact r_in5 _ _ _ (by decide))) (cwV 2 hts (gV mL_1_112 mI_1_set mX_1_set mN_1 mB_1_set) rfl rfl rfl (by decide +kernel) ⟨Nat.le_of_ble_eq_true rfl, Nat.le_of_ble_eq_true rfl⟩) hK hP hD hS hZ rfl hl.1 rfl (Nat.le_of_ble_eq_true rfl) dX1_perform_171 ⟨Nat.zero_le _, Nat.zero_le _⟩ (fun z25 ez25 H locs hP hD hS => ?_)
    have hP : va_P (dC, dI) vwCl (rW cI h0 qme0 qre1 z25) H := hP
    have hD : va_D (rA h0 qme0 qre1 s.heap.size) (rW cI h0 qme0 qre1 z25) := hD
    refine lv_goto (tgt := 364) hx hb dX1_perform_174 (by decide) ?_
    exact rVret (u := z25) hx hb hr hlocks (by subst ez25 ex24 ex8 ex7 ex6 ex5 ex4 ex3 ex2 ex1; exact (((if_neg c9).trans ((if_neg c11).trans ((if_neg c14).trans ((if_neg c16).trans ((if_neg c19).trans ((if_neg c21).trans ((if_pos c23).trans rfl)))))))).symm) hK hP hD hS dX1_perform_364
  by_cases c26 : x8 = 99
  · refine lv_lookup (tgt := 254) (off := 193) hx hb dX1_perform_61 (by decide) (by rw [c26]; decide) (by decide) ?_
    refine lv_aload_n hx hb dX1_perform_254 rfl (lv_at hl 5 rfl) ?_
    refine lv_iload_n hx hb dX1_perform_255 rfl (lv_at hl 6 rfl) ?_
    refine lv_iload_n hx hb dX1_perform_256 rfl (lv_at hl 3 rfl) ?_
    refine lv_iload hx hb dX1_perform_257 (lv_at hl 2 rfl) ?_
    refine lv_iload hx hb dX1_perform_259 (lv_at hl 1 rfl) ?_
    refine rMv (As := [.int p1, .int x2, .int x4, .int x6]) (rest := []) (f := r_branch st p1 x2 x4 x6) ⟨hx, hb, hml, hown, hts⟩ (cr_branch l dC dI cI h0 qme0 qre1 tN tB H.size st p1 x2 x4 x6) (cwV 4 hts (gV mL_1_121 mI_1_branch mX_1_branch mN_1 mB_1_branch) rfl rfl rfl (by decide +kernel) ⟨Nat.le_of_ble_eq_true rfl, Nat.le_of_ble_eq_true rfl⟩) hK hP hD hS hZ rfl hl.1 rfl (Nat.le_of_ble_eq_true rfl) dX1_perform_261 ⟨Nat.zero_le _, Nat.zero_le _⟩ (fun z27 ez27 H locs hP hD hS => ?_)
    have hP : va_P (dC, dI) vwCl (rW cI h0 qme0 qre1 z27) H := hP
    have hD : va_D (rA h0 qme0 qre1 s.heap.size) (rW cI h0 qme0 qre1 z27) := hD
    refine lv_goto (tgt := 364) hx hb dX1_perform_264 (by decide) ?_
    exact rVret (u := z27) hx hb hr hlocks (by subst ez27 ex8 ex7 ex6 ex5 ex4 ex3 ex2 ex1; exact (((if_neg c9).trans ((if_neg c11).trans ((if_neg c14).trans ((if_neg c16).trans ((if_neg c19).trans ((if_neg c21).trans ((if_neg c23).trans ((if_pos c26).trans rfl))))))))).symm) hK hP hD hS dX1_perform_364
  by_cases c28 : x8 = 103
  · refine lv_lookup (tgt := 216) (off := 155) hx hb dX1_perform_61 (by decide) (by rw [c28]; decide) (by decide) ?_
    refine lv_iload_n hx hb dX1_perform_216 rfl (lv_at hl 3 rfl) ?_
    refine lv_if_ne (tgt := 245) hx hb dX1_perform_217 (by decide) (fun c29 => ?_) (fun c29 => ?_)
    · refine lv_aload_n hx hb dX1_perform_245 rfl (lv_at hl 5 rfl) ?_
      refine lv_iconst (v := 2) hx hb dX1_perform_246 (by decide) ?_
      refine lv_iload_n hx hb dX1_perform_247 rfl (lv_at hl 6 rfl) ?_
      refine rMv (As := [.int 2, .int p1]) (rest := []) (f := r_trap st (2 : Int32) p1) ⟨hx, hb, hml, hown, hts⟩ (cr_trap l dC dI cI h0 qme0 qre1 tN tB H.size st (2 : Int32) p1) (cwV 2 hts (gV mL_1_93 mI_1_trap mX_1_trap mN_1 mB_1_trap) rfl rfl rfl (by decide +kernel) ⟨Nat.le_of_ble_eq_true rfl, Nat.le_of_ble_eq_true rfl⟩) hK hP hD hS hZ rfl hl.1 rfl (Nat.le_of_ble_eq_true rfl) dX1_perform_248 ⟨Nat.zero_le _, Nat.zero_le _⟩ (fun z30 ez30 H locs hP hD hS => ?_)
      have hP : va_P (dC, dI) vwCl (rW cI h0 qme0 qre1 z30) H := hP
      have hD : va_D (rA h0 qme0 qre1 s.heap.size) (rW cI h0 qme0 qre1 z30) := hD
      refine lv_goto (tgt := 364) hx hb dX1_perform_251 (by decide) ?_
      exact rVret (u := z30) hx hb hr hlocks (by subst ez30 ex8 ex7 ex6 ex5 ex4 ex3 ex2 ex1; exact (((if_neg c9).trans ((if_neg c11).trans ((if_neg c14).trans ((if_neg c16).trans ((if_neg c19).trans ((if_neg c21).trans ((if_neg c23).trans ((if_neg c26).trans ((if_pos c28).trans ((if_neg c29).trans rfl))))))))))).symm) hK hP hD hS dX1_perform_364
    · refine lv_iload hx hb dX1_perform_220 (lv_at hl 2 rfl) ?_
      refine lv_iload hx hb dX1_perform_222 (lv_at hl 0 rfl) ?_
      refine lv_iadd hx hb dX1_perform_224 ?_
      refine lv_topi (fun x31 ex31 => ?_)
      refine lv_istore (lv' := [(7, .int x31), (6, .int x7), (5, .int x6), (4, .int x4), (3, .int x2), (2, .int x1), (0, .ref h0), (1, .int p1)]) hx hb dX1_perform_225 hl (by decide) rfl (fun ls hl => ?_)
      refine lv_aload_n hx hb dX1_perform_227 rfl (lv_at hl 6 rfl) ?_
      refine lv_iload hx hb dX1_perform_228 (lv_at hl 0 rfl) ?_
      refine lv_iload hx hb dX1_perform_230 (lv_at hl 0 rfl) ?_
      refine lv_iconst (v := 0) hx hb dX1_perform_232 (by decide) ?_
      refine lv_iconst (v := 0) hx hb dX1_perform_233 (by decide) ?_
      refine W.callR (W.runS (As := [.int x31, .int 0, .int 0]) (rest := [.int x31, .ref h0]) ⟨hx, hb, hml, hown, hts⟩ (cr_bits l x31 (0 : Int32) (0 : Int32)) (cwS 3 hts (gS mL_1_46 mS_1_bits mN_1 mB_1_bits) rfl rfl rfl (by decide +kernel) ⟨Nat.le_of_ble_eq_true rfl, Nat.le_of_ble_eq_true rfl⟩) ⟨jblind, fun _ _ _ => ⟨rfl, trivial⟩⟩ rfl rfl hl.1 rfl (lv_room (Nat.le_of_ble_eq_true rfl)) dX1_perform_234 ⟨Nat.zero_le _, Nat.zero_le _⟩) ?_
      refine W.eq (g2 := F0 m 237 ls (.int (r_bits x31 (0 : Int32) (0 : Int32)) :: [.int x31, .ref h0])) rfl ?_
      refine lv_topi (fun x32 ex32 => ?_)
      refine lv_isub hx hb dX1_perform_237 ?_
      refine lv_iload_n hx hb dX1_perform_238 rfl (lv_at hl 5 rfl) ?_
      refine rMv (As := [.int (x31 - x32), .int x1]) (rest := []) (f := r_jump st (x31 - x32) x1) ⟨hx, hb, hml, hown, hts⟩ (cr_jump l dC dI cI h0 qme0 qre1 tN tB H.size st (x31 - x32) x1 (by rw [ex1]; exact r_in5 _ _ _ (by decide))) (cwV 2 hts (gV mL_1_118 mI_1_jump mX_1_jump mN_1 mB_1_jump) rfl rfl rfl (by decide +kernel) ⟨Nat.le_of_ble_eq_true rfl, Nat.le_of_ble_eq_true rfl⟩) hK hP hD hS hZ rfl hl.1 rfl (Nat.le_of_ble_eq_true rfl) dX1_perform_239 ⟨Nat.zero_le _, Nat.zero_le _⟩ (fun z33 ez33 H locs hP hD hS => ?_)
      have hP : va_P (dC, dI) vwCl (rW cI h0 qme0 qre1 z33) H := hP
      have hD : va_D (rA h0 qme0 qre1 s.heap.size) (rW cI h0 qme0 qre1 z33) := hD
      refine lv_goto (tgt := 364) hx hb dX1_perform_242 (by decide) ?_
      exact rVret (u := z33) hx hb hr hlocks (by subst ez33 ex32 ex31 ex8 ex7 ex6 ex5 ex4 ex3 ex2 ex1; exact (((if_neg c9).trans ((if_neg c11).trans ((if_neg c14).trans ((if_neg c16).trans ((if_neg c19).trans ((if_neg c21).trans ((if_neg c23).trans ((if_neg c26).trans ((if_pos c28).trans ((if_pos c29).trans rfl))))))))))).symm) hK hP hD hS dX1_perform_364
  by_cases c34 : x8 = 111
  · refine lv_lookup (tgt := 199) (off := 138) hx hb dX1_perform_61 (by decide) (by rw [c34]; decide) (by decide) ?_
    refine lv_aload_n hx hb dX1_perform_199 rfl (lv_at hl 5 rfl) ?_
    refine lv_aload_n hx hb dX1_perform_200 rfl (lv_at hl 5 rfl) ?_
    refine va_get (D := (dC, dI)) (ci := 1) (v := .int st.2.2.2.1) (C := "PagedHartModel") (T := TX1) (N := 18) hx hb hts mU1 hown hK hP 0 rfl rfl 3 (by decide) (hts _ mF_1_75) (fun _ h9 => h9) rfl dX1_perform_201 ?_
    refine lv_iload_n hx hb dX1_perform_204 rfl (lv_at hl 6 rfl) ?_
    refine W.callR (W.runS (As := [.int p1]) (rest := [.int st.2.2.2.1, .ref h0]) ⟨hx, hb, hml, hown, hts⟩ (cr_far l p1) (cwS 1 hts (gS mL_1_115 mS_1_far mN_1 mB_1_far) rfl rfl rfl (by decide +kernel) ⟨Nat.le_of_ble_eq_true rfl, Nat.le_of_ble_eq_true rfl⟩) ⟨jblind, fun _ _ _ => ⟨rfl, trivial⟩⟩ rfl rfl hl.1 rfl (lv_room (Nat.le_of_ble_eq_true rfl)) dX1_perform_205 ⟨Nat.zero_le _, Nat.zero_le _⟩) ?_
    refine W.eq (g2 := F0 m 208 ls (.int (r_far p1) :: [.int st.2.2.2.1, .ref h0])) rfl ?_
    refine lv_topi (fun x35 ex35 => ?_)
    refine lv_iadd hx hb dX1_perform_208 ?_
    refine lv_iload_n hx hb dX1_perform_209 rfl (lv_at hl 4 rfl) ?_
    refine rMv (As := [.int (st.2.2.2.1 + x35), .int x1]) (rest := []) (f := r_jump st (st.2.2.2.1 + x35) x1) ⟨hx, hb, hml, hown, hts⟩ (cr_jump l dC dI cI h0 qme0 qre1 tN tB H.size st (st.2.2.2.1 + x35) x1 (by rw [ex1]; exact r_in5 _ _ _ (by decide))) (cwV 2 hts (gV mL_1_118 mI_1_jump mX_1_jump mN_1 mB_1_jump) rfl rfl rfl (by decide +kernel) ⟨Nat.le_of_ble_eq_true rfl, Nat.le_of_ble_eq_true rfl⟩) hK hP hD hS hZ rfl hl.1 rfl (Nat.le_of_ble_eq_true rfl) dX1_perform_210 ⟨Nat.zero_le _, Nat.zero_le _⟩ (fun z36 ez36 H locs hP hD hS => ?_)
    have hP : va_P (dC, dI) vwCl (rW cI h0 qme0 qre1 z36) H := hP
    have hD : va_D (rA h0 qme0 qre1 s.heap.size) (rW cI h0 qme0 qre1 z36) := hD
    refine lv_goto (tgt := 364) hx hb dX1_perform_213 (by decide) ?_
    exact rVret (u := z36) hx hb hr hlocks (by subst ez36 ex35 ex8 ex7 ex6 ex5 ex4 ex3 ex2 ex1; exact (((if_neg c9).trans ((if_neg c11).trans ((if_neg c14).trans ((if_neg c16).trans ((if_neg c19).trans ((if_neg c21).trans ((if_neg c23).trans ((if_neg c26).trans ((if_neg c28).trans ((if_pos c34).trans rfl))))))))))).symm) hK hP hD hS dX1_perform_364
  by_cases c37 : x8 = 115
  · refine lv_lookup (tgt := 346) (off := 285) hx hb dX1_perform_61 (by decide) (by rw [c37]; decide) (by decide) ?_
    refine lv_aload_n hx hb dX1_perform_346 rfl (lv_at hl 5 rfl) ?_
    refine lv_iload_n hx hb dX1_perform_347 rfl (lv_at hl 6 rfl) ?_
    refine lv_iload_n hx hb dX1_perform_348 rfl (lv_at hl 3 rfl) ?_
    refine lv_iload_n hx hb dX1_perform_349 rfl (lv_at hl 4 rfl) ?_
    refine lv_iload hx hb dX1_perform_350 (lv_at hl 2 rfl) ?_
    refine rMv (As := [.int p1, .int x2, .int x1, .int x4]) (rest := []) (f := r_system st p1 x2 x1 x4) ⟨hx, hb, hml, hown, hts⟩ (cr_system l dC dI cI h0 qme0 qre1 tN tB H.size st p1 x2 x1 x4 (by rw [ex1]; exact r_in5 _ _ _ (by decide))) (cwV 4 hts (gV mL_1_138 mI_1_system mX_1_system mN_1 mB_1_system) rfl rfl rfl (by decide +kernel) ⟨Nat.le_of_ble_eq_true rfl, Nat.le_of_ble_eq_true rfl⟩) hK hP hD hS hZ rfl hl.1 rfl (Nat.le_of_ble_eq_true rfl) dX1_perform_352 ⟨Nat.zero_le _, Nat.zero_le _⟩ (fun z38 ez38 H locs hP hD hS => ?_)
    have hP : va_P (dC, dI) vwCl (rW cI h0 qme0 qre1 z38) H := hP
    have hD : va_D (rA h0 qme0 qre1 s.heap.size) (rW cI h0 qme0 qre1 z38) := hD
    refine lv_goto (tgt := 364) hx hb dX1_perform_355 (by decide) ?_
    exact rVret (u := z38) hx hb hr hlocks (by subst ez38 ex8 ex7 ex6 ex5 ex4 ex3 ex2 ex1; exact (((if_neg c9).trans ((if_neg c11).trans ((if_neg c14).trans ((if_neg c16).trans ((if_neg c19).trans ((if_neg c21).trans ((if_neg c23).trans ((if_neg c26).trans ((if_neg c28).trans ((if_neg c34).trans ((if_pos c37).trans rfl)))))))))))).symm) hK hP hD hS dX1_perform_364
  refine lv_lookup (tgt := 358) (off := 297) hx hb dX1_perform_61 (by decide) ((lv_osw (k := 3) c9 (by decide)).trans ((lv_osw (k := 15) c11 (by decide)).trans ((lv_osw (k := 19) c14 (by decide)).trans ((lv_osw (k := 23) c16 (by decide)).trans ((lv_osw (k := 35) c19 (by decide)).trans ((lv_osw (k := 51) c21 (by decide)).trans ((lv_osw (k := 55) c23 (by decide)).trans ((lv_osw (k := 99) c26 (by decide)).trans ((lv_osw (k := 103) c28 (by decide)).trans ((lv_osw (k := 111) c34 (by decide)).trans ((lv_osw (k := 115) c37 (by decide)).trans rfl))))))))))) (by decide) ?_
  refine lv_aload_n hx hb dX1_perform_358 rfl (lv_at hl 5 rfl) ?_
  refine lv_iconst (v := 2) hx hb dX1_perform_359 (by decide) ?_
  refine lv_iload_n hx hb dX1_perform_360 rfl (lv_at hl 6 rfl) ?_
  refine rMv (As := [.int 2, .int p1]) (rest := []) (f := r_trap st (2 : Int32) p1) ⟨hx, hb, hml, hown, hts⟩ (cr_trap l dC dI cI h0 qme0 qre1 tN tB H.size st (2 : Int32) p1) (cwV 2 hts (gV mL_1_93 mI_1_trap mX_1_trap mN_1 mB_1_trap) rfl rfl rfl (by decide +kernel) ⟨Nat.le_of_ble_eq_true rfl, Nat.le_of_ble_eq_true rfl⟩) hK hP hD hS hZ rfl hl.1 rfl (Nat.le_of_ble_eq_true rfl) dX1_perform_361 ⟨Nat.zero_le _, Nat.zero_le _⟩ (fun z39 ez39 H locs hP hD hS => ?_)
  have hP : va_P (dC, dI) vwCl (rW cI h0 qme0 qre1 z39) H := hP
  have hD : va_D (rA h0 qme0 qre1 s.heap.size) (rW cI h0 qme0 qre1 z39) := hD
  exact rVret (u := z39) hx hb hr hlocks (by subst ez39 ex8 ex7 ex6 ex5 ex4 ex3 ex2 ex1; exact (((if_neg c9).trans ((if_neg c11).trans ((if_neg c14).trans ((if_neg c16).trans ((if_neg c19).trans ((if_neg c21).trans ((if_neg c23).trans ((if_neg c26).trans ((if_neg c28).trans ((if_neg c34).trans ((if_neg c37).trans rfl)))))))))))).symm) hK hP hD hS dX1_perform_364

def r_step (st : RS)  : RS :=
  if st.2.2.2.2.1 = 0 then
    if st.2.2.2.2.2.2.2.2.2.2.2.2.2.1 = 0 then
      let z29 : RS := r_trap (st.1, st.2.1, st.2.2.1, st.2.2.2.1, st.2.2.2.2.1, st.2.2.2.2.2.1, st.2.2.2.2.2.2.1, st.2.2.2.2.2.2.2.1, st.2.2.2.2.2.2.2.2.1, st.2.2.2.2.2.2.2.2.2.1, st.2.2.2.2.2.2.2.2.2.2.1, st.2.2.2.2.2.2.2.2.2.2.2.1, st.2.2.2.2.2.2.2.2.2.2.2.2.1, st.2.2.2.2.2.2.2.2.2.2.2.2.2.1, st.2.2.2.2.2.2.2.2.2.2.2.2.2.2.1, (0 : Int32), st.2.2.2.2.2.2.2.2.2.2.2.2.2.2.2.2.1, st.2.2.2.2.2.2.2.2.2.2.2.2.2.2.2.2.2) (24 : Int32) (0 : Int32)
      z29
    else
      if st.2.2.2.2.2.2.2.2.2.2.2.2.1 = 0 then
        let z28 : RS := r_trap (st.1, st.2.1, st.2.2.1, st.2.2.2.1, st.2.2.2.2.1, st.2.2.2.2.2.1, st.2.2.2.2.2.2.1, st.2.2.2.2.2.2.2.1, st.2.2.2.2.2.2.2.2.1, st.2.2.2.2.2.2.2.2.2.1, st.2.2.2.2.2.2.2.2.2.2.1, st.2.2.2.2.2.2.2.2.2.2.2.1, st.2.2.2.2.2.2.2.2.2.2.2.2.1, st.2.2.2.2.2.2.2.2.2.2.2.2.2.1, st.2.2.2.2.2.2.2.2.2.2.2.2.2.2.1, (0 : Int32), st.2.2.2.2.2.2.2.2.2.2.2.2.2.2.2.2.1, st.2.2.2.2.2.2.2.2.2.2.2.2.2.2.2.2.2) ((-2147483643) : Int32) (0 : Int32)
        z28
      else
        let z16 : Int32 × RS := r_reach (st.1, st.2.1, st.2.2.1, st.2.2.2.1, st.2.2.2.2.1, st.2.2.2.2.2.1, st.2.2.2.2.2.2.1, st.2.2.2.2.2.2.2.1, st.2.2.2.2.2.2.2.2.1, st.2.2.2.2.2.2.2.2.2.1, st.2.2.2.2.2.2.2.2.2.2.1, st.2.2.2.2.2.2.2.2.2.2.2.1, st.2.2.2.2.2.2.2.2.2.2.2.2.1, st.2.2.2.2.2.2.2.2.2.2.2.2.2.1, st.2.2.2.2.2.2.2.2.2.2.2.2.2.2.1, (0 : Int32), st.2.2.2.2.2.2.2.2.2.2.2.2.2.2.2.2.1, st.2.2.2.2.2.2.2.2.2.2.2.2.2.2.2.2.2) st.2.2.2.1 (4 : Int32) (0 : Int32)
        let x17 : Int32 := z16.1
        if z16.2.2.2.2.2.2.2.2.2.2.2.2.2.2.2.2.1 = 0 then
          let x19 : Int32 := z16.2.2.1 (x17 / (4 : Int32)).toNatClampNeg
          let z20 : RS := r_perform (z16.2.1, z16.2.2.1, z16.2.2.2.1, z16.2.2.2.2.1, z16.2.2.2.2.2.1, z16.2.2.2.2.2.2.1, z16.2.2.2.2.2.2.2.1, z16.2.2.2.2.2.2.2.2.1, z16.2.2.2.2.2.2.2.2.2.1, z16.2.2.2.2.2.2.2.2.2.2.1, z16.2.2.2.2.2.2.2.2.2.2.2.1, z16.2.2.2.2.2.2.2.2.2.2.2.2.1, z16.2.2.2.2.2.2.2.2.2.2.2.2.2.1, z16.2.2.2.2.2.2.2.2.2.2.2.2.2.2.1, z16.2.2.2.2.2.2.2.2.2.2.2.2.2.2.2.1, z16.2.2.2.2.2.2.2.2.2.2.2.2.2.2.2.2.1, z16.2.2.2.2.1 + (4 : Int32), z16.2.2.2.2.2.2.2.2.2.2.2.2.2.2.2.2.2.2) x19
          if z20.2.2.2.2.2.2.2.2.2.2.2.2.2.2.2.1 = 0 then
            if z20.2.2.2.2.2.2.2.2.2.2.2.2.2.1 = ((-1) : Int32) then
              if z20.2.2.2.2.2.2.2.2.2.2.2.2.1 = ((-1) : Int32) then
                (z20.1, z20.2.1, z20.2.2.1, z20.2.2.2.2.2.2.2.2.2.2.2.2.2.2.2.2.1, z20.2.2.2.2.1, z20.2.2.2.2.2.1, z20.2.2.2.2.2.2.1, z20.2.2.2.2.2.2.2.1, z20.2.2.2.2.2.2.2.2.1, z20.2.2.2.2.2.2.2.2.2.1, z20.2.2.2.2.2.2.2.2.2.2.1, z20.2.2.2.2.2.2.2.2.2.2.2.1, z20.2.2.2.2.2.2.2.2.2.2.2.2.1, z20.2.2.2.2.2.2.2.2.2.2.2.2.2.1, z20.2.2.2.2.2.2.2.2.2.2.2.2.2.2.1, z20.2.2.2.2.2.2.2.2.2.2.2.2.2.2.2.1, z20.2.2.2.2.2.2.2.2.2.2.2.2.2.2.2.2.1, z20.2.2.2.2.2.2.2.2.2.2.2.2.2.2.2.2.2)
              else
                (z20.1, z20.2.1, z20.2.2.1, z20.2.2.2.2.2.2.2.2.2.2.2.2.2.2.2.2.1, z20.2.2.2.2.1, z20.2.2.2.2.2.1, z20.2.2.2.2.2.2.1, z20.2.2.2.2.2.2.2.1, z20.2.2.2.2.2.2.2.2.1, z20.2.2.2.2.2.2.2.2.2.1, z20.2.2.2.2.2.2.2.2.2.2.1, z20.2.2.2.2.2.2.2.2.2.2.2.1, z20.2.2.2.2.2.2.2.2.2.2.2.2.1 - (1 : Int32), z20.2.2.2.2.2.2.2.2.2.2.2.2.2.1, z20.2.2.2.2.2.2.2.2.2.2.2.2.2.2.1, z20.2.2.2.2.2.2.2.2.2.2.2.2.2.2.2.1, z20.2.2.2.2.2.2.2.2.2.2.2.2.2.2.2.2.1, z20.2.2.2.2.2.2.2.2.2.2.2.2.2.2.2.2.2)
            else
              if z20.2.2.2.2.2.2.2.2.2.2.2.2.1 = ((-1) : Int32) then
                (z20.1, z20.2.1, z20.2.2.1, z20.2.2.2.2.2.2.2.2.2.2.2.2.2.2.2.2.1, z20.2.2.2.2.1, z20.2.2.2.2.2.1, z20.2.2.2.2.2.2.1, z20.2.2.2.2.2.2.2.1, z20.2.2.2.2.2.2.2.2.1, z20.2.2.2.2.2.2.2.2.2.1, z20.2.2.2.2.2.2.2.2.2.2.1, z20.2.2.2.2.2.2.2.2.2.2.2.1, z20.2.2.2.2.2.2.2.2.2.2.2.2.1, z20.2.2.2.2.2.2.2.2.2.2.2.2.2.1 - (1 : Int32), z20.2.2.2.2.2.2.2.2.2.2.2.2.2.2.1, z20.2.2.2.2.2.2.2.2.2.2.2.2.2.2.2.1, z20.2.2.2.2.2.2.2.2.2.2.2.2.2.2.2.2.1, z20.2.2.2.2.2.2.2.2.2.2.2.2.2.2.2.2.2)
              else
                (z20.1, z20.2.1, z20.2.2.1, z20.2.2.2.2.2.2.2.2.2.2.2.2.2.2.2.2.1, z20.2.2.2.2.1, z20.2.2.2.2.2.1, z20.2.2.2.2.2.2.1, z20.2.2.2.2.2.2.2.1, z20.2.2.2.2.2.2.2.2.1, z20.2.2.2.2.2.2.2.2.2.1, z20.2.2.2.2.2.2.2.2.2.2.1, z20.2.2.2.2.2.2.2.2.2.2.2.1, z20.2.2.2.2.2.2.2.2.2.2.2.2.1 - (1 : Int32), z20.2.2.2.2.2.2.2.2.2.2.2.2.2.1 - (1 : Int32), z20.2.2.2.2.2.2.2.2.2.2.2.2.2.2.1, z20.2.2.2.2.2.2.2.2.2.2.2.2.2.2.2.1, z20.2.2.2.2.2.2.2.2.2.2.2.2.2.2.2.2.1, z20.2.2.2.2.2.2.2.2.2.2.2.2.2.2.2.2.2)
          else
            z20
        else
          z16.2
  else
    let z4 : Int32 × RS := r_reach (st.1, st.2.1, st.2.2.1, st.2.2.2.1, st.2.2.2.2.1, st.2.2.2.2.2.1, st.2.2.2.2.2.2.1, st.2.2.2.2.2.2.2.1, st.2.2.2.2.2.2.2.2.1, st.2.2.2.2.2.2.2.2.2.1, st.2.2.2.2.2.2.2.2.2.2.1, st.2.2.2.2.2.2.2.2.2.2.2.1, st.2.2.2.2.2.2.2.2.2.2.2.2.1, st.2.2.2.2.2.2.2.2.2.2.2.2.2.1, st.2.2.2.2.2.2.2.2.2.2.2.2.2.2.1, (0 : Int32), st.2.2.2.2.2.2.2.2.2.2.2.2.2.2.2.2.1, st.2.2.2.2.2.2.2.2.2.2.2.2.2.2.2.2.2) st.2.2.2.1 (4 : Int32) (0 : Int32)
    let x5 : Int32 := z4.1
    if z4.2.2.2.2.2.2.2.2.2.2.2.2.2.2.2.2.1 = 0 then
      let x7 : Int32 := z4.2.2.1 (x5 / (4 : Int32)).toNatClampNeg
      let z8 : RS := r_perform (z4.2.1, z4.2.2.1, z4.2.2.2.1, z4.2.2.2.2.1, z4.2.2.2.2.2.1, z4.2.2.2.2.2.2.1, z4.2.2.2.2.2.2.2.1, z4.2.2.2.2.2.2.2.2.1, z4.2.2.2.2.2.2.2.2.2.1, z4.2.2.2.2.2.2.2.2.2.2.1, z4.2.2.2.2.2.2.2.2.2.2.2.1, z4.2.2.2.2.2.2.2.2.2.2.2.2.1, z4.2.2.2.2.2.2.2.2.2.2.2.2.2.1, z4.2.2.2.2.2.2.2.2.2.2.2.2.2.2.1, z4.2.2.2.2.2.2.2.2.2.2.2.2.2.2.2.1, z4.2.2.2.2.2.2.2.2.2.2.2.2.2.2.2.2.1, z4.2.2.2.2.1 + (4 : Int32), z4.2.2.2.2.2.2.2.2.2.2.2.2.2.2.2.2.2.2) x7
      if z8.2.2.2.2.2.2.2.2.2.2.2.2.2.2.2.1 = 0 then
        (z8.1, z8.2.1, z8.2.2.1, z8.2.2.2.2.2.2.2.2.2.2.2.2.2.2.2.2.1, z8.2.2.2.2.1, z8.2.2.2.2.2.1, z8.2.2.2.2.2.2.1, z8.2.2.2.2.2.2.2.1, z8.2.2.2.2.2.2.2.2.1, z8.2.2.2.2.2.2.2.2.2.1, z8.2.2.2.2.2.2.2.2.2.2.1, z8.2.2.2.2.2.2.2.2.2.2.2.1, z8.2.2.2.2.2.2.2.2.2.2.2.2.1, z8.2.2.2.2.2.2.2.2.2.2.2.2.2.1, z8.2.2.2.2.2.2.2.2.2.2.2.2.2.2.1, z8.2.2.2.2.2.2.2.2.2.2.2.2.2.2.2.1, z8.2.2.2.2.2.2.2.2.2.2.2.2.2.2.2.2.1, z8.2.2.2.2.2.2.2.2.2.2.2.2.2.2.2.2.2)
      else
        z8
    else
      z4.2
set_option maxHeartbeats 4000000 in
set_option maxRecDepth 100000 in
theorem cr_step (l : Launch) (dC : Nat → ClassId) (dI : Nat → Nat → Nat) (cI h0 qme0 qre1 tN tB : Nat) (sz : Nat) (st : RS)   : Met l yX1_step (.code yX1_step cX1_step 4 none :: gBIG) ({ frames := 7, cells := 0, slots := 0, locals := 174 }) (va_Pc [.ref h0] (rPre dC dI cI h0 qme0 qre1 tN tB sz st)) (va_Qv (fun v => v = r_step st) (rB dC dI cI h0 qme0 qre1 (rA h0 qme0 qre1 sz)) (rA h0 qme0 qre1 sz)) 0 0 (rA h0 qme0 qre1 sz) := by
  refine Met.ofW (cc := cX1_step) (maxL := 4) (ret := none) (by decide) rfl ?_
  intro p e s m args below meth c s₁ B hml hv
  obtain ⟨rfl, hsz, hP, hK, hD0, hZ⟩ := hv
  have hx := B.exec
  have hb := B.bytes
  have hr := B.returns
  have hts : ∀ w ∈ gBIG, w.before _ s = true := fun w h => atoms_spec (ws := (.code yX1_step cX1_step 4 none :: gBIG)) B.pre w (List.mem_cons_of_mem _ h)
  have hown : s.vm.findClass "PagedHartModel" = some m.cls := findClass_of_methodNamed B.named
  have hlocks := B.notSynchronized
  subst hsz
  have hD : va_D (rA h0 qme0 qre1 s.heap.size) (rW cI h0 qme0 qre1 st) := rD hD0
  have hS : va_S (rA h0 qme0 qre1 s.heap.size) s.heap s.heap [] := va_S.rf
  have hP : va_P (dC, dI) vwCl (rW cI h0 qme0 qre1 st) s.heap := hP
  have hl := lv_entry ([.ref h0]) (n := 4) (Nat.le_of_ble_eq_true rfl)
  rw [lg_entry_eq]
  generalize (lg_sl ([.ref h0]) ++ List.replicate (4 - (lg_sl ([.ref h0])).length) Slot.unset).toArray = ls at hl ⊢
  refine jgo (P := fun H locs => va_P (dC, dI) vwCl (rW cI h0 qme0 qre1 st) H ∧ va_S (rA h0 qme0 qre1 s.heap.size) s.heap H locs) ⟨hP, hS⟩ (fun H locs hPS => ?_)
  obtain ⟨hP, hS⟩ := hPS
  have hl : lv_has ls 4 [(0, .ref h0)] := hl
  refine lv_aload_n hx hb dX1_step_0 rfl (lv_at hl 0 rfl) ?_
  refine lv_iconst (v := 0) hx hb dX1_step_1 (by decide) ?_
  refine va_put (D := (dC, dI)) (ci := 1) (v := .int 0) (ty := .boolean) (C := "PagedHartModel") (T := TX1) (N := 18) hx hb hts mU1 tyX1 tyX1_ok nmX1 hown hK hP hD hS 0 rfl rfl 15 (by decide) (hts _ mF_1_90) (fun _ h9 => h9) rfl (by decide +kernel) rfl rfl (Nat.le_of_ble_eq_true rfl) dX1_step_2 (fun H locs hP hD hS => ?_)
  have hP : va_P (dC, dI) vwCl (rW cI h0 qme0 qre1 (st.1, st.2.1, st.2.2.1, st.2.2.2.1, st.2.2.2.2.1, st.2.2.2.2.2.1, st.2.2.2.2.2.2.1, st.2.2.2.2.2.2.2.1, st.2.2.2.2.2.2.2.2.1, st.2.2.2.2.2.2.2.2.2.1, st.2.2.2.2.2.2.2.2.2.2.1, st.2.2.2.2.2.2.2.2.2.2.2.1, st.2.2.2.2.2.2.2.2.2.2.2.2.1, st.2.2.2.2.2.2.2.2.2.2.2.2.2.1, st.2.2.2.2.2.2.2.2.2.2.2.2.2.2.1, (0 : Int32), st.2.2.2.2.2.2.2.2.2.2.2.2.2.2.2.2.1, st.2.2.2.2.2.2.2.2.2.2.2.2.2.2.2.2.2)) H := hP
  have hD : va_D (rA h0 qme0 qre1 s.heap.size) (rW cI h0 qme0 qre1 (st.1, st.2.1, st.2.2.1, st.2.2.2.1, st.2.2.2.2.1, st.2.2.2.2.2.1, st.2.2.2.2.2.2.1, st.2.2.2.2.2.2.2.1, st.2.2.2.2.2.2.2.2.1, st.2.2.2.2.2.2.2.2.2.1, st.2.2.2.2.2.2.2.2.2.2.1, st.2.2.2.2.2.2.2.2.2.2.2.1, st.2.2.2.2.2.2.2.2.2.2.2.2.1, st.2.2.2.2.2.2.2.2.2.2.2.2.2.1, st.2.2.2.2.2.2.2.2.2.2.2.2.2.2.1, (0 : Int32), st.2.2.2.2.2.2.2.2.2.2.2.2.2.2.2.2.1, st.2.2.2.2.2.2.2.2.2.2.2.2.2.2.2.2.2)) := hD
  refine lv_aload_n hx hb dX1_step_5 rfl (lv_at hl 0 rfl) ?_
  refine va_get (D := (dC, dI)) (ci := 1) (v := .int st.2.2.2.2.1) (C := "PagedHartModel") (T := TX1) (N := 18) hx hb hts mU1 hown hK hP 0 rfl rfl 4 (by decide) (hts _ mF_1_17) (fun _ h9 => h9) rfl dX1_step_6 ?_
  refine lv_if_ne (tgt := 16) hx hb dX1_step_9 (by decide) (fun c1 => ?_) (fun c1 => ?_)
  · refine lv_iconst (v := 0) hx hb dX1_step_16 (by decide) ?_
    refine lv_istore_n (lv' := [(1, .int 0), (0, .ref h0)]) hx hb dX1_step_17 rfl hl (by decide) rfl (fun ls hl => ?_)
    refine lv_iload_n hx hb dX1_step_18 rfl (lv_at hl 0 rfl) ?_
    refine lv_if_eq (tgt := 37) hx hb dX1_step_19 (by decide) (fun c2 => ?_) (fun c2 => ?_)
    · refine lv_iload_n hx hb dX1_step_37 rfl (lv_at hl 0 rfl) ?_
      refine lv_if_eq (tgt := 56) hx hb dX1_step_38 (by decide) (fun c3 => ?_) (fun c3 => ?_)
      · refine lv_aload_n hx hb dX1_step_56 rfl (lv_at hl 1 rfl) ?_
        refine lv_aload_n hx hb dX1_step_57 rfl (lv_at hl 1 rfl) ?_
        refine va_get (D := (dC, dI)) (ci := 1) (v := .int st.2.2.2.1) (C := "PagedHartModel") (T := TX1) (N := 18) hx hb hts mU1 hown hK hP 0 rfl rfl 3 (by decide) (hts _ mF_1_75) (fun _ h9 => h9) rfl dX1_step_58 ?_
        refine lv_iconst (v := 4) hx hb dX1_step_61 (by decide) ?_
        refine lv_iconst (v := 0) hx hb dX1_step_62 (by decide) ?_
        refine rMi (As := [.int st.2.2.2.1, .int 4, .int 0]) (rest := []) (f := r_reach (st.1, st.2.1, st.2.2.1, st.2.2.2.1, st.2.2.2.2.1, st.2.2.2.2.2.1, st.2.2.2.2.2.2.1, st.2.2.2.2.2.2.2.1, st.2.2.2.2.2.2.2.2.1, st.2.2.2.2.2.2.2.2.2.1, st.2.2.2.2.2.2.2.2.2.2.1, st.2.2.2.2.2.2.2.2.2.2.2.1, st.2.2.2.2.2.2.2.2.2.2.2.2.1, st.2.2.2.2.2.2.2.2.2.2.2.2.2.1, st.2.2.2.2.2.2.2.2.2.2.2.2.2.2.1, (0 : Int32), st.2.2.2.2.2.2.2.2.2.2.2.2.2.2.2.2.1, st.2.2.2.2.2.2.2.2.2.2.2.2.2.2.2.2.2) st.2.2.2.1 (4 : Int32) (0 : Int32)) ⟨hx, hb, hml, hown, hts⟩ (cr_reach l dC dI cI h0 qme0 qre1 tN tB H.size (st.1, st.2.1, st.2.2.1, st.2.2.2.1, st.2.2.2.2.1, st.2.2.2.2.2.1, st.2.2.2.2.2.2.1, st.2.2.2.2.2.2.2.1, st.2.2.2.2.2.2.2.2.1, st.2.2.2.2.2.2.2.2.2.1, st.2.2.2.2.2.2.2.2.2.2.1, st.2.2.2.2.2.2.2.2.2.2.2.1, st.2.2.2.2.2.2.2.2.2.2.2.2.1, st.2.2.2.2.2.2.2.2.2.2.2.2.2.1, st.2.2.2.2.2.2.2.2.2.2.2.2.2.2.1, (0 : Int32), st.2.2.2.2.2.2.2.2.2.2.2.2.2.2.2.2.1, st.2.2.2.2.2.2.2.2.2.2.2.2.2.2.2.2.2) st.2.2.2.1 (4 : Int32) (0 : Int32) (by decide)) (cwV 3 hts (gV mL_1_102 mI_1_reach mX_1_reach mN_1 mB_1_reach) rfl rfl rfl (by decide +kernel) ⟨Nat.le_of_ble_eq_true rfl, Nat.le_of_ble_eq_true rfl⟩) hK hP hD hS hZ rfl hl.1 rfl (Nat.le_of_ble_eq_true rfl) dX1_step_63 ⟨Nat.zero_le _, Nat.zero_le _⟩ (fun z4 ez4 H locs hP hD hS => ?_)
        have hP : va_P (dC, dI) vwCl (rW cI h0 qme0 qre1 z4.2) H := hP
        have hD : va_D (rA h0 qme0 qre1 s.heap.size) (rW cI h0 qme0 qre1 z4.2) := hD
        refine lv_topi (fun x5 ex5 => ?_)
        refine lv_istore_n (lv' := [(2, .int x5), (1, .int 0), (0, .ref h0)]) hx hb dX1_step_66 rfl hl (by decide) rfl (fun ls hl => ?_)
        refine lv_aload_n hx hb dX1_step_67 rfl (lv_at hl 2 rfl) ?_
        refine va_get (D := (dC, dI)) (ci := 1) (v := .int z4.2.2.2.2.2.2.2.2.2.2.2.2.2.2.2.2.1) (C := "PagedHartModel") (T := TX1) (N := 18) hx hb hts mU1 hown hK hP 0 rfl rfl 15 (by decide) (hts _ mF_1_90) (fun _ h9 => h9) rfl dX1_step_68 ?_
        refine lv_if_eq (tgt := 75) hx hb dX1_step_71 (by decide) (fun c6 => ?_) (fun c6 => ?_)
        · refine lv_aload_n hx hb dX1_step_75 rfl (lv_at hl 2 rfl) ?_
          refine va_get (D := (dC, dI)) (ci := 1) (v := .ref qme0) (C := "PagedHartModel") (T := TX1) (N := 18) hx hb hts mU1 hown hK hP 0 rfl rfl 1 (by decide) (hts _ mF_1_8) (fun _ h9 => h9) rfl dX1_step_76 ?_
          refine lv_iload_n hx hb dX1_step_79 rfl (lv_at hl 0 rfl) ?_
          refine lv_iconst (v := 4) hx hb dX1_step_80 (by decide) ?_
          refine lv_idiv hx hb dX1_step_81 (by decide) ?_
          refine va_iald (D := (dC, dI)) hx hb hK hP 1 0 rfl rfl (by have h9 := c6; rw [ex5]; rw [ez4] at h9 ⊢; exact r_in3 _ _ _ _ h9) dX1_step_82 ?_
          refine lv_topi (fun x7 ex7 => ?_)
          refine lv_istore_n (lv' := [(3, .int x7), (2, .int x5), (1, .int 0), (0, .ref h0)]) hx hb dX1_step_83 rfl hl (by decide) rfl (fun ls hl => ?_)
          refine lv_aload_n hx hb dX1_step_84 rfl (lv_at hl 3 rfl) ?_
          refine lv_aload_n hx hb dX1_step_85 rfl (lv_at hl 3 rfl) ?_
          refine va_get (D := (dC, dI)) (ci := 1) (v := .int z4.2.2.2.2.1) (C := "PagedHartModel") (T := TX1) (N := 18) hx hb hts mU1 hown hK hP 0 rfl rfl 3 (by decide) (hts _ mF_1_75) (fun _ h9 => h9) rfl dX1_step_86 ?_
          refine lv_iconst (v := 4) hx hb dX1_step_89 (by decide) ?_
          refine lv_iadd hx hb dX1_step_90 ?_
          refine va_put (D := (dC, dI)) (ci := 1) (v := .int (z4.2.2.2.2.1 + (4 : Int32))) (ty := .int) (C := "PagedHartModel") (T := TX1) (N := 18) hx hb hts mU1 tyX1 tyX1_ok nmX1 hown hK hP hD hS 0 rfl rfl 16 (by decide) (hts _ mF_1_105) (fun _ h9 => h9) rfl (by decide +kernel) rfl rfl (Nat.le_of_ble_eq_true rfl) dX1_step_91 (fun H locs hP hD hS => ?_)
          have hP : va_P (dC, dI) vwCl (rW cI h0 qme0 qre1 (z4.2.1, z4.2.2.1, z4.2.2.2.1, z4.2.2.2.2.1, z4.2.2.2.2.2.1, z4.2.2.2.2.2.2.1, z4.2.2.2.2.2.2.2.1, z4.2.2.2.2.2.2.2.2.1, z4.2.2.2.2.2.2.2.2.2.1, z4.2.2.2.2.2.2.2.2.2.2.1, z4.2.2.2.2.2.2.2.2.2.2.2.1, z4.2.2.2.2.2.2.2.2.2.2.2.2.1, z4.2.2.2.2.2.2.2.2.2.2.2.2.2.1, z4.2.2.2.2.2.2.2.2.2.2.2.2.2.2.1, z4.2.2.2.2.2.2.2.2.2.2.2.2.2.2.2.1, z4.2.2.2.2.2.2.2.2.2.2.2.2.2.2.2.2.1, z4.2.2.2.2.1 + (4 : Int32), z4.2.2.2.2.2.2.2.2.2.2.2.2.2.2.2.2.2.2)) H := hP
          have hD : va_D (rA h0 qme0 qre1 s.heap.size) (rW cI h0 qme0 qre1 (z4.2.1, z4.2.2.1, z4.2.2.2.1, z4.2.2.2.2.1, z4.2.2.2.2.2.1, z4.2.2.2.2.2.2.1, z4.2.2.2.2.2.2.2.1, z4.2.2.2.2.2.2.2.2.1, z4.2.2.2.2.2.2.2.2.2.1, z4.2.2.2.2.2.2.2.2.2.2.1, z4.2.2.2.2.2.2.2.2.2.2.2.1, z4.2.2.2.2.2.2.2.2.2.2.2.2.1, z4.2.2.2.2.2.2.2.2.2.2.2.2.2.1, z4.2.2.2.2.2.2.2.2.2.2.2.2.2.2.1, z4.2.2.2.2.2.2.2.2.2.2.2.2.2.2.2.1, z4.2.2.2.2.2.2.2.2.2.2.2.2.2.2.2.2.1, z4.2.2.2.2.1 + (4 : Int32), z4.2.2.2.2.2.2.2.2.2.2.2.2.2.2.2.2.2.2)) := hD
          refine lv_aload_n hx hb dX1_step_94 rfl (lv_at hl 3 rfl) ?_
          refine lv_iload_n hx hb dX1_step_95 rfl (lv_at hl 0 rfl) ?_
          refine rMv (As := [.int x7]) (rest := []) (f := r_perform (z4.2.1, z4.2.2.1, z4.2.2.2.1, z4.2.2.2.2.1, z4.2.2.2.2.2.1, z4.2.2.2.2.2.2.1, z4.2.2.2.2.2.2.2.1, z4.2.2.2.2.2.2.2.2.1, z4.2.2.2.2.2.2.2.2.2.1, z4.2.2.2.2.2.2.2.2.2.2.1, z4.2.2.2.2.2.2.2.2.2.2.2.1, z4.2.2.2.2.2.2.2.2.2.2.2.2.1, z4.2.2.2.2.2.2.2.2.2.2.2.2.2.1, z4.2.2.2.2.2.2.2.2.2.2.2.2.2.2.1, z4.2.2.2.2.2.2.2.2.2.2.2.2.2.2.2.1, z4.2.2.2.2.2.2.2.2.2.2.2.2.2.2.2.2.1, z4.2.2.2.2.1 + (4 : Int32), z4.2.2.2.2.2.2.2.2.2.2.2.2.2.2.2.2.2.2) x7) ⟨hx, hb, hml, hown, hts⟩ (cr_perform l dC dI cI h0 qme0 qre1 tN tB H.size (z4.2.1, z4.2.2.1, z4.2.2.2.1, z4.2.2.2.2.1, z4.2.2.2.2.2.1, z4.2.2.2.2.2.2.1, z4.2.2.2.2.2.2.2.1, z4.2.2.2.2.2.2.2.2.1, z4.2.2.2.2.2.2.2.2.2.1, z4.2.2.2.2.2.2.2.2.2.2.1, z4.2.2.2.2.2.2.2.2.2.2.2.1, z4.2.2.2.2.2.2.2.2.2.2.2.2.1, z4.2.2.2.2.2.2.2.2.2.2.2.2.2.1, z4.2.2.2.2.2.2.2.2.2.2.2.2.2.2.1, z4.2.2.2.2.2.2.2.2.2.2.2.2.2.2.2.1, z4.2.2.2.2.2.2.2.2.2.2.2.2.2.2.2.2.1, z4.2.2.2.2.1 + (4 : Int32), z4.2.2.2.2.2.2.2.2.2.2.2.2.2.2.2.2.2.2) x7) (cwV 1 hts (gV mL_1_108 mI_1_perform mX_1_perform mN_1 mB_1_perform) rfl rfl rfl (by decide +kernel) ⟨Nat.le_of_ble_eq_true rfl, Nat.le_of_ble_eq_true rfl⟩) hK hP hD hS hZ rfl hl.1 rfl (Nat.le_of_ble_eq_true rfl) dX1_step_96 ⟨Nat.zero_le _, Nat.zero_le _⟩ (fun z8 ez8 H locs hP hD hS => ?_)
          have hP : va_P (dC, dI) vwCl (rW cI h0 qme0 qre1 z8) H := hP
          have hD : va_D (rA h0 qme0 qre1 s.heap.size) (rW cI h0 qme0 qre1 z8) := hD
          refine lv_aload_n hx hb dX1_step_99 rfl (lv_at hl 3 rfl) ?_
          refine va_get (D := (dC, dI)) (ci := 1) (v := .int z8.2.2.2.2.2.2.2.2.2.2.2.2.2.2.2.1) (C := "PagedHartModel") (T := TX1) (N := 18) hx hb hts mU1 hown hK hP 0 rfl rfl 15 (by decide) (hts _ mF_1_90) (fun _ h9 => h9) rfl dX1_step_100 ?_
          refine lv_if_ne (tgt := 172) hx hb dX1_step_103 (by decide) (fun c9 => ?_) (fun c9 => ?_)
          · exact rVret (u := z8) hx hb hr hlocks (by subst ez8 ex7 ex5 ez4; exact (((if_neg c1).trans ((if_pos c6).trans ((if_neg c9).trans rfl)))).symm) hK hP hD hS dX1_step_172
          · refine lv_aload_n hx hb dX1_step_106 rfl (lv_at hl 3 rfl) ?_
            refine lv_aload_n hx hb dX1_step_107 rfl (lv_at hl 3 rfl) ?_
            refine va_get (D := (dC, dI)) (ci := 1) (v := .int z8.2.2.2.2.2.2.2.2.2.2.2.2.2.2.2.2.1) (C := "PagedHartModel") (T := TX1) (N := 18) hx hb hts mU1 hown hK hP 0 rfl rfl 16 (by decide) (hts _ mF_1_105) (fun _ h9 => h9) rfl dX1_step_108 ?_
            refine va_put (D := (dC, dI)) (ci := 1) (v := .int z8.2.2.2.2.2.2.2.2.2.2.2.2.2.2.2.2.1) (ty := .int) (C := "PagedHartModel") (T := TX1) (N := 18) hx hb hts mU1 tyX1 tyX1_ok nmX1 hown hK hP hD hS 0 rfl rfl 3 (by decide) (hts _ mF_1_75) (fun _ h9 => h9) rfl (by decide +kernel) rfl rfl (Nat.le_of_ble_eq_true rfl) dX1_step_111 (fun H locs hP hD hS => ?_)
            have hP : va_P (dC, dI) vwCl (rW cI h0 qme0 qre1 (z8.1, z8.2.1, z8.2.2.1, z8.2.2.2.2.2.2.2.2.2.2.2.2.2.2.2.2.1, z8.2.2.2.2.1, z8.2.2.2.2.2.1, z8.2.2.2.2.2.2.1, z8.2.2.2.2.2.2.2.1, z8.2.2.2.2.2.2.2.2.1, z8.2.2.2.2.2.2.2.2.2.1, z8.2.2.2.2.2.2.2.2.2.2.1, z8.2.2.2.2.2.2.2.2.2.2.2.1, z8.2.2.2.2.2.2.2.2.2.2.2.2.1, z8.2.2.2.2.2.2.2.2.2.2.2.2.2.1, z8.2.2.2.2.2.2.2.2.2.2.2.2.2.2.1, z8.2.2.2.2.2.2.2.2.2.2.2.2.2.2.2.1, z8.2.2.2.2.2.2.2.2.2.2.2.2.2.2.2.2.1, z8.2.2.2.2.2.2.2.2.2.2.2.2.2.2.2.2.2)) H := hP
            have hD : va_D (rA h0 qme0 qre1 s.heap.size) (rW cI h0 qme0 qre1 (z8.1, z8.2.1, z8.2.2.1, z8.2.2.2.2.2.2.2.2.2.2.2.2.2.2.2.2.1, z8.2.2.2.2.1, z8.2.2.2.2.2.1, z8.2.2.2.2.2.2.1, z8.2.2.2.2.2.2.2.1, z8.2.2.2.2.2.2.2.2.1, z8.2.2.2.2.2.2.2.2.2.1, z8.2.2.2.2.2.2.2.2.2.2.1, z8.2.2.2.2.2.2.2.2.2.2.2.1, z8.2.2.2.2.2.2.2.2.2.2.2.2.1, z8.2.2.2.2.2.2.2.2.2.2.2.2.2.1, z8.2.2.2.2.2.2.2.2.2.2.2.2.2.2.1, z8.2.2.2.2.2.2.2.2.2.2.2.2.2.2.2.1, z8.2.2.2.2.2.2.2.2.2.2.2.2.2.2.2.2.1, z8.2.2.2.2.2.2.2.2.2.2.2.2.2.2.2.2.2)) := hD
            refine lv_aload_n hx hb dX1_step_114 rfl (lv_at hl 3 rfl) ?_
            refine lv_iload_n hx hb dX1_step_115 rfl (lv_at hl 2 rfl) ?_
            refine lv_if_eq (tgt := 136) hx hb dX1_step_116 (by decide) (fun c10 => ?_) (fun c10 => ?_)
            · refine lv_aload_n hx hb dX1_step_136 rfl (lv_at hl 3 rfl) ?_
              refine va_get (D := (dC, dI)) (ci := 1) (v := .int z8.2.2.2.2.2.2.2.2.2.2.2.2.2.1) (C := "PagedHartModel") (T := TX1) (N := 18) hx hb hts mU1 hown hK hP 0 rfl rfl 13 (by decide) (hts _ mF_1_24) (fun _ h9 => h9) rfl dX1_step_137 ?_
              refine va_put (D := (dC, dI)) (ci := 1) (v := .int z8.2.2.2.2.2.2.2.2.2.2.2.2.2.1) (ty := .int) (C := "PagedHartModel") (T := TX1) (N := 18) hx hb hts mU1 tyX1 tyX1_ok nmX1 hown hK hP hD hS 0 rfl rfl 13 (by decide) (hts _ mF_1_24) (fun _ h9 => h9) rfl (by decide +kernel) rfl rfl (Nat.le_of_ble_eq_true rfl) dX1_step_140 (fun H locs hP hD hS => ?_)
              have hP : va_P (dC, dI) vwCl (rW cI h0 qme0 qre1 (z8.1, z8.2.1, z8.2.2.1, z8.2.2.2.2.2.2.2.2.2.2.2.2.2.2.2.2.1, z8.2.2.2.2.1, z8.2.2.2.2.2.1, z8.2.2.2.2.2.2.1, z8.2.2.2.2.2.2.2.1, z8.2.2.2.2.2.2.2.2.1, z8.2.2.2.2.2.2.2.2.2.1, z8.2.2.2.2.2.2.2.2.2.2.1, z8.2.2.2.2.2.2.2.2.2.2.2.1, z8.2.2.2.2.2.2.2.2.2.2.2.2.1, z8.2.2.2.2.2.2.2.2.2.2.2.2.2.1, z8.2.2.2.2.2.2.2.2.2.2.2.2.2.2.1, z8.2.2.2.2.2.2.2.2.2.2.2.2.2.2.2.1, z8.2.2.2.2.2.2.2.2.2.2.2.2.2.2.2.2.1, z8.2.2.2.2.2.2.2.2.2.2.2.2.2.2.2.2.2)) H := hP
              have hD : va_D (rA h0 qme0 qre1 s.heap.size) (rW cI h0 qme0 qre1 (z8.1, z8.2.1, z8.2.2.1, z8.2.2.2.2.2.2.2.2.2.2.2.2.2.2.2.2.1, z8.2.2.2.2.1, z8.2.2.2.2.2.1, z8.2.2.2.2.2.2.1, z8.2.2.2.2.2.2.2.1, z8.2.2.2.2.2.2.2.2.1, z8.2.2.2.2.2.2.2.2.2.1, z8.2.2.2.2.2.2.2.2.2.2.1, z8.2.2.2.2.2.2.2.2.2.2.2.1, z8.2.2.2.2.2.2.2.2.2.2.2.2.1, z8.2.2.2.2.2.2.2.2.2.2.2.2.2.1, z8.2.2.2.2.2.2.2.2.2.2.2.2.2.2.1, z8.2.2.2.2.2.2.2.2.2.2.2.2.2.2.2.1, z8.2.2.2.2.2.2.2.2.2.2.2.2.2.2.2.2.1, z8.2.2.2.2.2.2.2.2.2.2.2.2.2.2.2.2.2)) := hD
              refine lv_aload_n hx hb dX1_step_143 rfl (lv_at hl 3 rfl) ?_
              refine lv_iload_n hx hb dX1_step_144 rfl (lv_at hl 2 rfl) ?_
              refine lv_if_eq (tgt := 165) hx hb dX1_step_145 (by decide) (fun c11 => ?_) (fun c11 => ?_)
              · refine lv_aload_n hx hb dX1_step_165 rfl (lv_at hl 3 rfl) ?_
                refine va_get (D := (dC, dI)) (ci := 1) (v := .int z8.2.2.2.2.2.2.2.2.2.2.2.2.1) (C := "PagedHartModel") (T := TX1) (N := 18) hx hb hts mU1 hown hK hP 0 rfl rfl 12 (by decide) (hts _ mF_1_21) (fun _ h9 => h9) rfl dX1_step_166 ?_
                refine va_put (D := (dC, dI)) (ci := 1) (v := .int z8.2.2.2.2.2.2.2.2.2.2.2.2.1) (ty := .int) (C := "PagedHartModel") (T := TX1) (N := 18) hx hb hts mU1 tyX1 tyX1_ok nmX1 hown hK hP hD hS 0 rfl rfl 12 (by decide) (hts _ mF_1_21) (fun _ h9 => h9) rfl (by decide +kernel) rfl rfl (Nat.le_of_ble_eq_true rfl) dX1_step_169 (fun H locs hP hD hS => ?_)
                have hP : va_P (dC, dI) vwCl (rW cI h0 qme0 qre1 (z8.1, z8.2.1, z8.2.2.1, z8.2.2.2.2.2.2.2.2.2.2.2.2.2.2.2.2.1, z8.2.2.2.2.1, z8.2.2.2.2.2.1, z8.2.2.2.2.2.2.1, z8.2.2.2.2.2.2.2.1, z8.2.2.2.2.2.2.2.2.1, z8.2.2.2.2.2.2.2.2.2.1, z8.2.2.2.2.2.2.2.2.2.2.1, z8.2.2.2.2.2.2.2.2.2.2.2.1, z8.2.2.2.2.2.2.2.2.2.2.2.2.1, z8.2.2.2.2.2.2.2.2.2.2.2.2.2.1, z8.2.2.2.2.2.2.2.2.2.2.2.2.2.2.1, z8.2.2.2.2.2.2.2.2.2.2.2.2.2.2.2.1, z8.2.2.2.2.2.2.2.2.2.2.2.2.2.2.2.2.1, z8.2.2.2.2.2.2.2.2.2.2.2.2.2.2.2.2.2)) H := hP
                have hD : va_D (rA h0 qme0 qre1 s.heap.size) (rW cI h0 qme0 qre1 (z8.1, z8.2.1, z8.2.2.1, z8.2.2.2.2.2.2.2.2.2.2.2.2.2.2.2.2.1, z8.2.2.2.2.1, z8.2.2.2.2.2.1, z8.2.2.2.2.2.2.1, z8.2.2.2.2.2.2.2.1, z8.2.2.2.2.2.2.2.2.1, z8.2.2.2.2.2.2.2.2.2.1, z8.2.2.2.2.2.2.2.2.2.2.1, z8.2.2.2.2.2.2.2.2.2.2.2.1, z8.2.2.2.2.2.2.2.2.2.2.2.2.1, z8.2.2.2.2.2.2.2.2.2.2.2.2.2.1, z8.2.2.2.2.2.2.2.2.2.2.2.2.2.2.1, z8.2.2.2.2.2.2.2.2.2.2.2.2.2.2.2.1, z8.2.2.2.2.2.2.2.2.2.2.2.2.2.2.2.2.1, z8.2.2.2.2.2.2.2.2.2.2.2.2.2.2.2.2.2)) := hD
                exact rVret (u := (z8.1, z8.2.1, z8.2.2.1, z8.2.2.2.2.2.2.2.2.2.2.2.2.2.2.2.2.1, z8.2.2.2.2.1, z8.2.2.2.2.2.1, z8.2.2.2.2.2.2.1, z8.2.2.2.2.2.2.2.1, z8.2.2.2.2.2.2.2.2.1, z8.2.2.2.2.2.2.2.2.2.1, z8.2.2.2.2.2.2.2.2.2.2.1, z8.2.2.2.2.2.2.2.2.2.2.2.1, z8.2.2.2.2.2.2.2.2.2.2.2.2.1, z8.2.2.2.2.2.2.2.2.2.2.2.2.2.1, z8.2.2.2.2.2.2.2.2.2.2.2.2.2.2.1, z8.2.2.2.2.2.2.2.2.2.2.2.2.2.2.2.1, z8.2.2.2.2.2.2.2.2.2.2.2.2.2.2.2.2.1, z8.2.2.2.2.2.2.2.2.2.2.2.2.2.2.2.2.2)) hx hb hr hlocks (by subst ez8 ex7 ex5 ez4; exact (((if_neg c1).trans ((if_pos c6).trans ((if_pos c9).trans rfl)))).symm) hK hP hD hS dX1_step_172
              · exact (c11 (by decide)).elim
            · exact (c10 (by decide)).elim
        · exact rVret (u := z4.2) hx hb hr hlocks (by subst ex5 ez4; exact (((if_neg c1).trans ((if_neg c6).trans rfl))).symm) hK hP hD hS dX1_step_74
      · exact (c3 (by decide)).elim
    · exact (c2 (by decide)).elim
  · refine lv_iconst (v := 1) hx hb dX1_step_12 (by decide) ?_
    refine lv_goto (tgt := 17) hx hb dX1_step_13 (by decide) ?_
    refine lv_istore_n (lv' := [(1, .int 1), (0, .ref h0)]) hx hb dX1_step_17 rfl hl (by decide) rfl (fun ls hl => ?_)
    refine lv_iload_n hx hb dX1_step_18 rfl (lv_at hl 0 rfl) ?_
    refine lv_if_eq (tgt := 37) hx hb dX1_step_19 (by decide) (fun c12 => ?_) (fun c12 => ?_)
    · exact absurd c12 (by decide)
    · refine lv_aload_n hx hb dX1_step_22 rfl (lv_at hl 1 rfl) ?_
      refine va_get (D := (dC, dI)) (ci := 1) (v := .int st.2.2.2.2.2.2.2.2.2.2.2.2.2.1) (C := "PagedHartModel") (T := TX1) (N := 18) hx hb hts mU1 hown hK hP 0 rfl rfl 13 (by decide) (hts _ mF_1_24) (fun _ h9 => h9) rfl dX1_step_23 ?_
      refine lv_if_ne (tgt := 37) hx hb dX1_step_26 (by decide) (fun c13 => ?_) (fun c13 => ?_)
      · refine lv_iload_n hx hb dX1_step_37 rfl (lv_at hl 0 rfl) ?_
        refine lv_if_eq (tgt := 56) hx hb dX1_step_38 (by decide) (fun c14 => ?_) (fun c14 => ?_)
        · exact absurd c14 (by decide)
        · refine lv_aload_n hx hb dX1_step_41 rfl (lv_at hl 1 rfl) ?_
          refine va_get (D := (dC, dI)) (ci := 1) (v := .int st.2.2.2.2.2.2.2.2.2.2.2.2.1) (C := "PagedHartModel") (T := TX1) (N := 18) hx hb hts mU1 hown hK hP 0 rfl rfl 12 (by decide) (hts _ mF_1_21) (fun _ h9 => h9) rfl dX1_step_42 ?_
          refine lv_if_ne (tgt := 56) hx hb dX1_step_45 (by decide) (fun c15 => ?_) (fun c15 => ?_)
          · refine lv_aload_n hx hb dX1_step_56 rfl (lv_at hl 1 rfl) ?_
            refine lv_aload_n hx hb dX1_step_57 rfl (lv_at hl 1 rfl) ?_
            refine va_get (D := (dC, dI)) (ci := 1) (v := .int st.2.2.2.1) (C := "PagedHartModel") (T := TX1) (N := 18) hx hb hts mU1 hown hK hP 0 rfl rfl 3 (by decide) (hts _ mF_1_75) (fun _ h9 => h9) rfl dX1_step_58 ?_
            refine lv_iconst (v := 4) hx hb dX1_step_61 (by decide) ?_
            refine lv_iconst (v := 0) hx hb dX1_step_62 (by decide) ?_
            refine rMi (As := [.int st.2.2.2.1, .int 4, .int 0]) (rest := []) (f := r_reach (st.1, st.2.1, st.2.2.1, st.2.2.2.1, st.2.2.2.2.1, st.2.2.2.2.2.1, st.2.2.2.2.2.2.1, st.2.2.2.2.2.2.2.1, st.2.2.2.2.2.2.2.2.1, st.2.2.2.2.2.2.2.2.2.1, st.2.2.2.2.2.2.2.2.2.2.1, st.2.2.2.2.2.2.2.2.2.2.2.1, st.2.2.2.2.2.2.2.2.2.2.2.2.1, st.2.2.2.2.2.2.2.2.2.2.2.2.2.1, st.2.2.2.2.2.2.2.2.2.2.2.2.2.2.1, (0 : Int32), st.2.2.2.2.2.2.2.2.2.2.2.2.2.2.2.2.1, st.2.2.2.2.2.2.2.2.2.2.2.2.2.2.2.2.2) st.2.2.2.1 (4 : Int32) (0 : Int32)) ⟨hx, hb, hml, hown, hts⟩ (cr_reach l dC dI cI h0 qme0 qre1 tN tB H.size (st.1, st.2.1, st.2.2.1, st.2.2.2.1, st.2.2.2.2.1, st.2.2.2.2.2.1, st.2.2.2.2.2.2.1, st.2.2.2.2.2.2.2.1, st.2.2.2.2.2.2.2.2.1, st.2.2.2.2.2.2.2.2.2.1, st.2.2.2.2.2.2.2.2.2.2.1, st.2.2.2.2.2.2.2.2.2.2.2.1, st.2.2.2.2.2.2.2.2.2.2.2.2.1, st.2.2.2.2.2.2.2.2.2.2.2.2.2.1, st.2.2.2.2.2.2.2.2.2.2.2.2.2.2.1, (0 : Int32), st.2.2.2.2.2.2.2.2.2.2.2.2.2.2.2.2.1, st.2.2.2.2.2.2.2.2.2.2.2.2.2.2.2.2.2) st.2.2.2.1 (4 : Int32) (0 : Int32) (by decide)) (cwV 3 hts (gV mL_1_102 mI_1_reach mX_1_reach mN_1 mB_1_reach) rfl rfl rfl (by decide +kernel) ⟨Nat.le_of_ble_eq_true rfl, Nat.le_of_ble_eq_true rfl⟩) hK hP hD hS hZ rfl hl.1 rfl (Nat.le_of_ble_eq_true rfl) dX1_step_63 ⟨Nat.zero_le _, Nat.zero_le _⟩ (fun z16 ez16 H locs hP hD hS => ?_)
            have hP : va_P (dC, dI) vwCl (rW cI h0 qme0 qre1 z16.2) H := hP
            have hD : va_D (rA h0 qme0 qre1 s.heap.size) (rW cI h0 qme0 qre1 z16.2) := hD
            refine lv_topi (fun x17 ex17 => ?_)
            refine lv_istore_n (lv' := [(2, .int x17), (1, .int 1), (0, .ref h0)]) hx hb dX1_step_66 rfl hl (by decide) rfl (fun ls hl => ?_)
            refine lv_aload_n hx hb dX1_step_67 rfl (lv_at hl 2 rfl) ?_
            refine va_get (D := (dC, dI)) (ci := 1) (v := .int z16.2.2.2.2.2.2.2.2.2.2.2.2.2.2.2.2.1) (C := "PagedHartModel") (T := TX1) (N := 18) hx hb hts mU1 hown hK hP 0 rfl rfl 15 (by decide) (hts _ mF_1_90) (fun _ h9 => h9) rfl dX1_step_68 ?_
            refine lv_if_eq (tgt := 75) hx hb dX1_step_71 (by decide) (fun c18 => ?_) (fun c18 => ?_)
            · refine lv_aload_n hx hb dX1_step_75 rfl (lv_at hl 2 rfl) ?_
              refine va_get (D := (dC, dI)) (ci := 1) (v := .ref qme0) (C := "PagedHartModel") (T := TX1) (N := 18) hx hb hts mU1 hown hK hP 0 rfl rfl 1 (by decide) (hts _ mF_1_8) (fun _ h9 => h9) rfl dX1_step_76 ?_
              refine lv_iload_n hx hb dX1_step_79 rfl (lv_at hl 0 rfl) ?_
              refine lv_iconst (v := 4) hx hb dX1_step_80 (by decide) ?_
              refine lv_idiv hx hb dX1_step_81 (by decide) ?_
              refine va_iald (D := (dC, dI)) hx hb hK hP 1 0 rfl rfl (by have h9 := c18; rw [ex17]; rw [ez16] at h9 ⊢; exact r_in3 _ _ _ _ h9) dX1_step_82 ?_
              refine lv_topi (fun x19 ex19 => ?_)
              refine lv_istore_n (lv' := [(3, .int x19), (2, .int x17), (1, .int 1), (0, .ref h0)]) hx hb dX1_step_83 rfl hl (by decide) rfl (fun ls hl => ?_)
              refine lv_aload_n hx hb dX1_step_84 rfl (lv_at hl 3 rfl) ?_
              refine lv_aload_n hx hb dX1_step_85 rfl (lv_at hl 3 rfl) ?_
              refine va_get (D := (dC, dI)) (ci := 1) (v := .int z16.2.2.2.2.1) (C := "PagedHartModel") (T := TX1) (N := 18) hx hb hts mU1 hown hK hP 0 rfl rfl 3 (by decide) (hts _ mF_1_75) (fun _ h9 => h9) rfl dX1_step_86 ?_
              refine lv_iconst (v := 4) hx hb dX1_step_89 (by decide) ?_
              refine lv_iadd hx hb dX1_step_90 ?_
              refine va_put (D := (dC, dI)) (ci := 1) (v := .int (z16.2.2.2.2.1 + (4 : Int32))) (ty := .int) (C := "PagedHartModel") (T := TX1) (N := 18) hx hb hts mU1 tyX1 tyX1_ok nmX1 hown hK hP hD hS 0 rfl rfl 16 (by decide) (hts _ mF_1_105) (fun _ h9 => h9) rfl (by decide +kernel) rfl rfl (Nat.le_of_ble_eq_true rfl) dX1_step_91 (fun H locs hP hD hS => ?_)
              have hP : va_P (dC, dI) vwCl (rW cI h0 qme0 qre1 (z16.2.1, z16.2.2.1, z16.2.2.2.1, z16.2.2.2.2.1, z16.2.2.2.2.2.1, z16.2.2.2.2.2.2.1, z16.2.2.2.2.2.2.2.1, z16.2.2.2.2.2.2.2.2.1, z16.2.2.2.2.2.2.2.2.2.1, z16.2.2.2.2.2.2.2.2.2.2.1, z16.2.2.2.2.2.2.2.2.2.2.2.1, z16.2.2.2.2.2.2.2.2.2.2.2.2.1, z16.2.2.2.2.2.2.2.2.2.2.2.2.2.1, z16.2.2.2.2.2.2.2.2.2.2.2.2.2.2.1, z16.2.2.2.2.2.2.2.2.2.2.2.2.2.2.2.1, z16.2.2.2.2.2.2.2.2.2.2.2.2.2.2.2.2.1, z16.2.2.2.2.1 + (4 : Int32), z16.2.2.2.2.2.2.2.2.2.2.2.2.2.2.2.2.2.2)) H := hP
              have hD : va_D (rA h0 qme0 qre1 s.heap.size) (rW cI h0 qme0 qre1 (z16.2.1, z16.2.2.1, z16.2.2.2.1, z16.2.2.2.2.1, z16.2.2.2.2.2.1, z16.2.2.2.2.2.2.1, z16.2.2.2.2.2.2.2.1, z16.2.2.2.2.2.2.2.2.1, z16.2.2.2.2.2.2.2.2.2.1, z16.2.2.2.2.2.2.2.2.2.2.1, z16.2.2.2.2.2.2.2.2.2.2.2.1, z16.2.2.2.2.2.2.2.2.2.2.2.2.1, z16.2.2.2.2.2.2.2.2.2.2.2.2.2.1, z16.2.2.2.2.2.2.2.2.2.2.2.2.2.2.1, z16.2.2.2.2.2.2.2.2.2.2.2.2.2.2.2.1, z16.2.2.2.2.2.2.2.2.2.2.2.2.2.2.2.2.1, z16.2.2.2.2.1 + (4 : Int32), z16.2.2.2.2.2.2.2.2.2.2.2.2.2.2.2.2.2.2)) := hD
              refine lv_aload_n hx hb dX1_step_94 rfl (lv_at hl 3 rfl) ?_
              refine lv_iload_n hx hb dX1_step_95 rfl (lv_at hl 0 rfl) ?_
              refine rMv (As := [.int x19]) (rest := []) (f := r_perform (z16.2.1, z16.2.2.1, z16.2.2.2.1, z16.2.2.2.2.1, z16.2.2.2.2.2.1, z16.2.2.2.2.2.2.1, z16.2.2.2.2.2.2.2.1, z16.2.2.2.2.2.2.2.2.1, z16.2.2.2.2.2.2.2.2.2.1, z16.2.2.2.2.2.2.2.2.2.2.1, z16.2.2.2.2.2.2.2.2.2.2.2.1, z16.2.2.2.2.2.2.2.2.2.2.2.2.1, z16.2.2.2.2.2.2.2.2.2.2.2.2.2.1, z16.2.2.2.2.2.2.2.2.2.2.2.2.2.2.1, z16.2.2.2.2.2.2.2.2.2.2.2.2.2.2.2.1, z16.2.2.2.2.2.2.2.2.2.2.2.2.2.2.2.2.1, z16.2.2.2.2.1 + (4 : Int32), z16.2.2.2.2.2.2.2.2.2.2.2.2.2.2.2.2.2.2) x19) ⟨hx, hb, hml, hown, hts⟩ (cr_perform l dC dI cI h0 qme0 qre1 tN tB H.size (z16.2.1, z16.2.2.1, z16.2.2.2.1, z16.2.2.2.2.1, z16.2.2.2.2.2.1, z16.2.2.2.2.2.2.1, z16.2.2.2.2.2.2.2.1, z16.2.2.2.2.2.2.2.2.1, z16.2.2.2.2.2.2.2.2.2.1, z16.2.2.2.2.2.2.2.2.2.2.1, z16.2.2.2.2.2.2.2.2.2.2.2.1, z16.2.2.2.2.2.2.2.2.2.2.2.2.1, z16.2.2.2.2.2.2.2.2.2.2.2.2.2.1, z16.2.2.2.2.2.2.2.2.2.2.2.2.2.2.1, z16.2.2.2.2.2.2.2.2.2.2.2.2.2.2.2.1, z16.2.2.2.2.2.2.2.2.2.2.2.2.2.2.2.2.1, z16.2.2.2.2.1 + (4 : Int32), z16.2.2.2.2.2.2.2.2.2.2.2.2.2.2.2.2.2.2) x19) (cwV 1 hts (gV mL_1_108 mI_1_perform mX_1_perform mN_1 mB_1_perform) rfl rfl rfl (by decide +kernel) ⟨Nat.le_of_ble_eq_true rfl, Nat.le_of_ble_eq_true rfl⟩) hK hP hD hS hZ rfl hl.1 rfl (Nat.le_of_ble_eq_true rfl) dX1_step_96 ⟨Nat.zero_le _, Nat.zero_le _⟩ (fun z20 ez20 H locs hP hD hS => ?_)
              have hP : va_P (dC, dI) vwCl (rW cI h0 qme0 qre1 z20) H := hP
              have hD : va_D (rA h0 qme0 qre1 s.heap.size) (rW cI h0 qme0 qre1 z20) := hD
              refine lv_aload_n hx hb dX1_step_99 rfl (lv_at hl 3 rfl) ?_
              refine va_get (D := (dC, dI)) (ci := 1) (v := .int z20.2.2.2.2.2.2.2.2.2.2.2.2.2.2.2.1) (C := "PagedHartModel") (T := TX1) (N := 18) hx hb hts mU1 hown hK hP 0 rfl rfl 15 (by decide) (hts _ mF_1_90) (fun _ h9 => h9) rfl dX1_step_100 ?_
              refine lv_if_ne (tgt := 172) hx hb dX1_step_103 (by decide) (fun c21 => ?_) (fun c21 => ?_)
              · exact rVret (u := z20) hx hb hr hlocks (by subst ez20 ex19 ex17 ez16; exact (((if_pos c1).trans ((if_neg c13).trans ((if_neg c15).trans ((if_pos c18).trans ((if_neg c21).trans rfl)))))).symm) hK hP hD hS dX1_step_172
              · refine lv_aload_n hx hb dX1_step_106 rfl (lv_at hl 3 rfl) ?_
                refine lv_aload_n hx hb dX1_step_107 rfl (lv_at hl 3 rfl) ?_
                refine va_get (D := (dC, dI)) (ci := 1) (v := .int z20.2.2.2.2.2.2.2.2.2.2.2.2.2.2.2.2.1) (C := "PagedHartModel") (T := TX1) (N := 18) hx hb hts mU1 hown hK hP 0 rfl rfl 16 (by decide) (hts _ mF_1_105) (fun _ h9 => h9) rfl dX1_step_108 ?_
                refine va_put (D := (dC, dI)) (ci := 1) (v := .int z20.2.2.2.2.2.2.2.2.2.2.2.2.2.2.2.2.1) (ty := .int) (C := "PagedHartModel") (T := TX1) (N := 18) hx hb hts mU1 tyX1 tyX1_ok nmX1 hown hK hP hD hS 0 rfl rfl 3 (by decide) (hts _ mF_1_75) (fun _ h9 => h9) rfl (by decide +kernel) rfl rfl (Nat.le_of_ble_eq_true rfl) dX1_step_111 (fun H locs hP hD hS => ?_)
                have hP : va_P (dC, dI) vwCl (rW cI h0 qme0 qre1 (z20.1, z20.2.1, z20.2.2.1, z20.2.2.2.2.2.2.2.2.2.2.2.2.2.2.2.2.1, z20.2.2.2.2.1, z20.2.2.2.2.2.1, z20.2.2.2.2.2.2.1, z20.2.2.2.2.2.2.2.1, z20.2.2.2.2.2.2.2.2.1, z20.2.2.2.2.2.2.2.2.2.1, z20.2.2.2.2.2.2.2.2.2.2.1, z20.2.2.2.2.2.2.2.2.2.2.2.1, z20.2.2.2.2.2.2.2.2.2.2.2.2.1, z20.2.2.2.2.2.2.2.2.2.2.2.2.2.1, z20.2.2.2.2.2.2.2.2.2.2.2.2.2.2.1, z20.2.2.2.2.2.2.2.2.2.2.2.2.2.2.2.1, z20.2.2.2.2.2.2.2.2.2.2.2.2.2.2.2.2.1, z20.2.2.2.2.2.2.2.2.2.2.2.2.2.2.2.2.2)) H := hP
                have hD : va_D (rA h0 qme0 qre1 s.heap.size) (rW cI h0 qme0 qre1 (z20.1, z20.2.1, z20.2.2.1, z20.2.2.2.2.2.2.2.2.2.2.2.2.2.2.2.2.1, z20.2.2.2.2.1, z20.2.2.2.2.2.1, z20.2.2.2.2.2.2.1, z20.2.2.2.2.2.2.2.1, z20.2.2.2.2.2.2.2.2.1, z20.2.2.2.2.2.2.2.2.2.1, z20.2.2.2.2.2.2.2.2.2.2.1, z20.2.2.2.2.2.2.2.2.2.2.2.1, z20.2.2.2.2.2.2.2.2.2.2.2.2.1, z20.2.2.2.2.2.2.2.2.2.2.2.2.2.1, z20.2.2.2.2.2.2.2.2.2.2.2.2.2.2.1, z20.2.2.2.2.2.2.2.2.2.2.2.2.2.2.2.1, z20.2.2.2.2.2.2.2.2.2.2.2.2.2.2.2.2.1, z20.2.2.2.2.2.2.2.2.2.2.2.2.2.2.2.2.2)) := hD
                refine lv_aload_n hx hb dX1_step_114 rfl (lv_at hl 3 rfl) ?_
                refine lv_iload_n hx hb dX1_step_115 rfl (lv_at hl 2 rfl) ?_
                refine lv_if_eq (tgt := 136) hx hb dX1_step_116 (by decide) (fun c22 => ?_) (fun c22 => ?_)
                · exact absurd c22 (by decide)
                · refine lv_aload_n hx hb dX1_step_119 rfl (lv_at hl 3 rfl) ?_
                  refine va_get (D := (dC, dI)) (ci := 1) (v := .int z20.2.2.2.2.2.2.2.2.2.2.2.2.2.1) (C := "PagedHartModel") (T := TX1) (N := 18) hx hb hts mU1 hown hK hP 0 rfl rfl 13 (by decide) (hts _ mF_1_24) (fun _ h9 => h9) rfl dX1_step_120 ?_
                  refine lv_iconst (v := (-1)) hx hb dX1_step_123 (by decide) ?_
                  refine lv_icmp_eq (tgt := 136) hx hb dX1_step_124 (by decide) (fun c23 => ?_) (fun c23 => ?_)
                  · refine lv_aload_n hx hb dX1_step_136 rfl (lv_at hl 3 rfl) ?_
                    refine va_get (D := (dC, dI)) (ci := 1) (v := .int z20.2.2.2.2.2.2.2.2.2.2.2.2.2.1) (C := "PagedHartModel") (T := TX1) (N := 18) hx hb hts mU1 hown hK hP 0 rfl rfl 13 (by decide) (hts _ mF_1_24) (fun _ h9 => h9) rfl dX1_step_137 ?_
                    refine va_put (D := (dC, dI)) (ci := 1) (v := .int z20.2.2.2.2.2.2.2.2.2.2.2.2.2.1) (ty := .int) (C := "PagedHartModel") (T := TX1) (N := 18) hx hb hts mU1 tyX1 tyX1_ok nmX1 hown hK hP hD hS 0 rfl rfl 13 (by decide) (hts _ mF_1_24) (fun _ h9 => h9) rfl (by decide +kernel) rfl rfl (Nat.le_of_ble_eq_true rfl) dX1_step_140 (fun H locs hP hD hS => ?_)
                    have hP : va_P (dC, dI) vwCl (rW cI h0 qme0 qre1 (z20.1, z20.2.1, z20.2.2.1, z20.2.2.2.2.2.2.2.2.2.2.2.2.2.2.2.2.1, z20.2.2.2.2.1, z20.2.2.2.2.2.1, z20.2.2.2.2.2.2.1, z20.2.2.2.2.2.2.2.1, z20.2.2.2.2.2.2.2.2.1, z20.2.2.2.2.2.2.2.2.2.1, z20.2.2.2.2.2.2.2.2.2.2.1, z20.2.2.2.2.2.2.2.2.2.2.2.1, z20.2.2.2.2.2.2.2.2.2.2.2.2.1, z20.2.2.2.2.2.2.2.2.2.2.2.2.2.1, z20.2.2.2.2.2.2.2.2.2.2.2.2.2.2.1, z20.2.2.2.2.2.2.2.2.2.2.2.2.2.2.2.1, z20.2.2.2.2.2.2.2.2.2.2.2.2.2.2.2.2.1, z20.2.2.2.2.2.2.2.2.2.2.2.2.2.2.2.2.2)) H := hP
                    have hD : va_D (rA h0 qme0 qre1 s.heap.size) (rW cI h0 qme0 qre1 (z20.1, z20.2.1, z20.2.2.1, z20.2.2.2.2.2.2.2.2.2.2.2.2.2.2.2.2.1, z20.2.2.2.2.1, z20.2.2.2.2.2.1, z20.2.2.2.2.2.2.1, z20.2.2.2.2.2.2.2.1, z20.2.2.2.2.2.2.2.2.1, z20.2.2.2.2.2.2.2.2.2.1, z20.2.2.2.2.2.2.2.2.2.2.1, z20.2.2.2.2.2.2.2.2.2.2.2.1, z20.2.2.2.2.2.2.2.2.2.2.2.2.1, z20.2.2.2.2.2.2.2.2.2.2.2.2.2.1, z20.2.2.2.2.2.2.2.2.2.2.2.2.2.2.1, z20.2.2.2.2.2.2.2.2.2.2.2.2.2.2.2.1, z20.2.2.2.2.2.2.2.2.2.2.2.2.2.2.2.2.1, z20.2.2.2.2.2.2.2.2.2.2.2.2.2.2.2.2.2)) := hD
                    refine lv_aload_n hx hb dX1_step_143 rfl (lv_at hl 3 rfl) ?_
                    refine lv_iload_n hx hb dX1_step_144 rfl (lv_at hl 2 rfl) ?_
                    refine lv_if_eq (tgt := 165) hx hb dX1_step_145 (by decide) (fun c24 => ?_) (fun c24 => ?_)
                    · exact absurd c24 (by decide)
                    · refine lv_aload_n hx hb dX1_step_148 rfl (lv_at hl 3 rfl) ?_
                      refine va_get (D := (dC, dI)) (ci := 1) (v := .int z20.2.2.2.2.2.2.2.2.2.2.2.2.1) (C := "PagedHartModel") (T := TX1) (N := 18) hx hb hts mU1 hown hK hP 0 rfl rfl 12 (by decide) (hts _ mF_1_21) (fun _ h9 => h9) rfl dX1_step_149 ?_
                      refine lv_iconst (v := (-1)) hx hb dX1_step_152 (by decide) ?_
                      refine lv_icmp_eq (tgt := 165) hx hb dX1_step_153 (by decide) (fun c25 => ?_) (fun c25 => ?_)
                      · refine lv_aload_n hx hb dX1_step_165 rfl (lv_at hl 3 rfl) ?_
                        refine va_get (D := (dC, dI)) (ci := 1) (v := .int z20.2.2.2.2.2.2.2.2.2.2.2.2.1) (C := "PagedHartModel") (T := TX1) (N := 18) hx hb hts mU1 hown hK hP 0 rfl rfl 12 (by decide) (hts _ mF_1_21) (fun _ h9 => h9) rfl dX1_step_166 ?_
                        refine va_put (D := (dC, dI)) (ci := 1) (v := .int z20.2.2.2.2.2.2.2.2.2.2.2.2.1) (ty := .int) (C := "PagedHartModel") (T := TX1) (N := 18) hx hb hts mU1 tyX1 tyX1_ok nmX1 hown hK hP hD hS 0 rfl rfl 12 (by decide) (hts _ mF_1_21) (fun _ h9 => h9) rfl (by decide +kernel) rfl rfl (Nat.le_of_ble_eq_true rfl) dX1_step_169 (fun H locs hP hD hS => ?_)
                        have hP : va_P (dC, dI) vwCl (rW cI h0 qme0 qre1 (z20.1, z20.2.1, z20.2.2.1, z20.2.2.2.2.2.2.2.2.2.2.2.2.2.2.2.2.1, z20.2.2.2.2.1, z20.2.2.2.2.2.1, z20.2.2.2.2.2.2.1, z20.2.2.2.2.2.2.2.1, z20.2.2.2.2.2.2.2.2.1, z20.2.2.2.2.2.2.2.2.2.1, z20.2.2.2.2.2.2.2.2.2.2.1, z20.2.2.2.2.2.2.2.2.2.2.2.1, z20.2.2.2.2.2.2.2.2.2.2.2.2.1, z20.2.2.2.2.2.2.2.2.2.2.2.2.2.1, z20.2.2.2.2.2.2.2.2.2.2.2.2.2.2.1, z20.2.2.2.2.2.2.2.2.2.2.2.2.2.2.2.1, z20.2.2.2.2.2.2.2.2.2.2.2.2.2.2.2.2.1, z20.2.2.2.2.2.2.2.2.2.2.2.2.2.2.2.2.2)) H := hP
                        have hD : va_D (rA h0 qme0 qre1 s.heap.size) (rW cI h0 qme0 qre1 (z20.1, z20.2.1, z20.2.2.1, z20.2.2.2.2.2.2.2.2.2.2.2.2.2.2.2.2.1, z20.2.2.2.2.1, z20.2.2.2.2.2.1, z20.2.2.2.2.2.2.1, z20.2.2.2.2.2.2.2.1, z20.2.2.2.2.2.2.2.2.1, z20.2.2.2.2.2.2.2.2.2.1, z20.2.2.2.2.2.2.2.2.2.2.1, z20.2.2.2.2.2.2.2.2.2.2.2.1, z20.2.2.2.2.2.2.2.2.2.2.2.2.1, z20.2.2.2.2.2.2.2.2.2.2.2.2.2.1, z20.2.2.2.2.2.2.2.2.2.2.2.2.2.2.1, z20.2.2.2.2.2.2.2.2.2.2.2.2.2.2.2.1, z20.2.2.2.2.2.2.2.2.2.2.2.2.2.2.2.2.1, z20.2.2.2.2.2.2.2.2.2.2.2.2.2.2.2.2.2)) := hD
                        exact rVret (u := (z20.1, z20.2.1, z20.2.2.1, z20.2.2.2.2.2.2.2.2.2.2.2.2.2.2.2.2.1, z20.2.2.2.2.1, z20.2.2.2.2.2.1, z20.2.2.2.2.2.2.1, z20.2.2.2.2.2.2.2.1, z20.2.2.2.2.2.2.2.2.1, z20.2.2.2.2.2.2.2.2.2.1, z20.2.2.2.2.2.2.2.2.2.2.1, z20.2.2.2.2.2.2.2.2.2.2.2.1, z20.2.2.2.2.2.2.2.2.2.2.2.2.1, z20.2.2.2.2.2.2.2.2.2.2.2.2.2.1, z20.2.2.2.2.2.2.2.2.2.2.2.2.2.2.1, z20.2.2.2.2.2.2.2.2.2.2.2.2.2.2.2.1, z20.2.2.2.2.2.2.2.2.2.2.2.2.2.2.2.2.1, z20.2.2.2.2.2.2.2.2.2.2.2.2.2.2.2.2.2)) hx hb hr hlocks (by subst ez20 ex19 ex17 ez16; exact (((if_pos c1).trans ((if_neg c13).trans ((if_neg c15).trans ((if_pos c18).trans ((if_pos c21).trans ((if_pos c23).trans ((if_pos c25).trans rfl)))))))).symm) hK hP hD hS dX1_step_172
                      · refine lv_aload_n hx hb dX1_step_156 rfl (lv_at hl 3 rfl) ?_
                        refine va_get (D := (dC, dI)) (ci := 1) (v := .int z20.2.2.2.2.2.2.2.2.2.2.2.2.1) (C := "PagedHartModel") (T := TX1) (N := 18) hx hb hts mU1 hown hK hP 0 rfl rfl 12 (by decide) (hts _ mF_1_21) (fun _ h9 => h9) rfl dX1_step_157 ?_
                        refine lv_iconst (v := 1) hx hb dX1_step_160 (by decide) ?_
                        refine lv_isub hx hb dX1_step_161 ?_
                        refine lv_goto (tgt := 169) hx hb dX1_step_162 (by decide) ?_
                        refine va_put (D := (dC, dI)) (ci := 1) (v := .int (z20.2.2.2.2.2.2.2.2.2.2.2.2.1 - (1 : Int32))) (ty := .int) (C := "PagedHartModel") (T := TX1) (N := 18) hx hb hts mU1 tyX1 tyX1_ok nmX1 hown hK hP hD hS 0 rfl rfl 12 (by decide) (hts _ mF_1_21) (fun _ h9 => h9) rfl (by decide +kernel) rfl rfl (Nat.le_of_ble_eq_true rfl) dX1_step_169 (fun H locs hP hD hS => ?_)
                        have hP : va_P (dC, dI) vwCl (rW cI h0 qme0 qre1 (z20.1, z20.2.1, z20.2.2.1, z20.2.2.2.2.2.2.2.2.2.2.2.2.2.2.2.2.1, z20.2.2.2.2.1, z20.2.2.2.2.2.1, z20.2.2.2.2.2.2.1, z20.2.2.2.2.2.2.2.1, z20.2.2.2.2.2.2.2.2.1, z20.2.2.2.2.2.2.2.2.2.1, z20.2.2.2.2.2.2.2.2.2.2.1, z20.2.2.2.2.2.2.2.2.2.2.2.1, z20.2.2.2.2.2.2.2.2.2.2.2.2.1 - (1 : Int32), z20.2.2.2.2.2.2.2.2.2.2.2.2.2.1, z20.2.2.2.2.2.2.2.2.2.2.2.2.2.2.1, z20.2.2.2.2.2.2.2.2.2.2.2.2.2.2.2.1, z20.2.2.2.2.2.2.2.2.2.2.2.2.2.2.2.2.1, z20.2.2.2.2.2.2.2.2.2.2.2.2.2.2.2.2.2)) H := hP
                        have hD : va_D (rA h0 qme0 qre1 s.heap.size) (rW cI h0 qme0 qre1 (z20.1, z20.2.1, z20.2.2.1, z20.2.2.2.2.2.2.2.2.2.2.2.2.2.2.2.2.1, z20.2.2.2.2.1, z20.2.2.2.2.2.1, z20.2.2.2.2.2.2.1, z20.2.2.2.2.2.2.2.1, z20.2.2.2.2.2.2.2.2.1, z20.2.2.2.2.2.2.2.2.2.1, z20.2.2.2.2.2.2.2.2.2.2.1, z20.2.2.2.2.2.2.2.2.2.2.2.1, z20.2.2.2.2.2.2.2.2.2.2.2.2.1 - (1 : Int32), z20.2.2.2.2.2.2.2.2.2.2.2.2.2.1, z20.2.2.2.2.2.2.2.2.2.2.2.2.2.2.1, z20.2.2.2.2.2.2.2.2.2.2.2.2.2.2.2.1, z20.2.2.2.2.2.2.2.2.2.2.2.2.2.2.2.2.1, z20.2.2.2.2.2.2.2.2.2.2.2.2.2.2.2.2.2)) := hD
                        exact rVret (u := (z20.1, z20.2.1, z20.2.2.1, z20.2.2.2.2.2.2.2.2.2.2.2.2.2.2.2.2.1, z20.2.2.2.2.1, z20.2.2.2.2.2.1, z20.2.2.2.2.2.2.1, z20.2.2.2.2.2.2.2.1, z20.2.2.2.2.2.2.2.2.1, z20.2.2.2.2.2.2.2.2.2.1, z20.2.2.2.2.2.2.2.2.2.2.1, z20.2.2.2.2.2.2.2.2.2.2.2.1, z20.2.2.2.2.2.2.2.2.2.2.2.2.1 - (1 : Int32), z20.2.2.2.2.2.2.2.2.2.2.2.2.2.1, z20.2.2.2.2.2.2.2.2.2.2.2.2.2.2.1, z20.2.2.2.2.2.2.2.2.2.2.2.2.2.2.2.1, z20.2.2.2.2.2.2.2.2.2.2.2.2.2.2.2.2.1, z20.2.2.2.2.2.2.2.2.2.2.2.2.2.2.2.2.2)) hx hb hr hlocks (by subst ez20 ex19 ex17 ez16; exact (((if_pos c1).trans ((if_neg c13).trans ((if_neg c15).trans ((if_pos c18).trans ((if_pos c21).trans ((if_pos c23).trans ((if_neg c25).trans rfl)))))))).symm) hK hP hD hS dX1_step_172
                  · refine lv_aload_n hx hb dX1_step_127 rfl (lv_at hl 3 rfl) ?_
                    refine va_get (D := (dC, dI)) (ci := 1) (v := .int z20.2.2.2.2.2.2.2.2.2.2.2.2.2.1) (C := "PagedHartModel") (T := TX1) (N := 18) hx hb hts mU1 hown hK hP 0 rfl rfl 13 (by decide) (hts _ mF_1_24) (fun _ h9 => h9) rfl dX1_step_128 ?_
                    refine lv_iconst (v := 1) hx hb dX1_step_131 (by decide) ?_
                    refine lv_isub hx hb dX1_step_132 ?_
                    refine lv_goto (tgt := 140) hx hb dX1_step_133 (by decide) ?_
                    refine va_put (D := (dC, dI)) (ci := 1) (v := .int (z20.2.2.2.2.2.2.2.2.2.2.2.2.2.1 - (1 : Int32))) (ty := .int) (C := "PagedHartModel") (T := TX1) (N := 18) hx hb hts mU1 tyX1 tyX1_ok nmX1 hown hK hP hD hS 0 rfl rfl 13 (by decide) (hts _ mF_1_24) (fun _ h9 => h9) rfl (by decide +kernel) rfl rfl (Nat.le_of_ble_eq_true rfl) dX1_step_140 (fun H locs hP hD hS => ?_)
                    have hP : va_P (dC, dI) vwCl (rW cI h0 qme0 qre1 (z20.1, z20.2.1, z20.2.2.1, z20.2.2.2.2.2.2.2.2.2.2.2.2.2.2.2.2.1, z20.2.2.2.2.1, z20.2.2.2.2.2.1, z20.2.2.2.2.2.2.1, z20.2.2.2.2.2.2.2.1, z20.2.2.2.2.2.2.2.2.1, z20.2.2.2.2.2.2.2.2.2.1, z20.2.2.2.2.2.2.2.2.2.2.1, z20.2.2.2.2.2.2.2.2.2.2.2.1, z20.2.2.2.2.2.2.2.2.2.2.2.2.1, z20.2.2.2.2.2.2.2.2.2.2.2.2.2.1 - (1 : Int32), z20.2.2.2.2.2.2.2.2.2.2.2.2.2.2.1, z20.2.2.2.2.2.2.2.2.2.2.2.2.2.2.2.1, z20.2.2.2.2.2.2.2.2.2.2.2.2.2.2.2.2.1, z20.2.2.2.2.2.2.2.2.2.2.2.2.2.2.2.2.2)) H := hP
                    have hD : va_D (rA h0 qme0 qre1 s.heap.size) (rW cI h0 qme0 qre1 (z20.1, z20.2.1, z20.2.2.1, z20.2.2.2.2.2.2.2.2.2.2.2.2.2.2.2.2.1, z20.2.2.2.2.1, z20.2.2.2.2.2.1, z20.2.2.2.2.2.2.1, z20.2.2.2.2.2.2.2.1, z20.2.2.2.2.2.2.2.2.1, z20.2.2.2.2.2.2.2.2.2.1, z20.2.2.2.2.2.2.2.2.2.2.1, z20.2.2.2.2.2.2.2.2.2.2.2.1, z20.2.2.2.2.2.2.2.2.2.2.2.2.1, z20.2.2.2.2.2.2.2.2.2.2.2.2.2.1 - (1 : Int32), z20.2.2.2.2.2.2.2.2.2.2.2.2.2.2.1, z20.2.2.2.2.2.2.2.2.2.2.2.2.2.2.2.1, z20.2.2.2.2.2.2.2.2.2.2.2.2.2.2.2.2.1, z20.2.2.2.2.2.2.2.2.2.2.2.2.2.2.2.2.2)) := hD
                    refine lv_aload_n hx hb dX1_step_143 rfl (lv_at hl 3 rfl) ?_
                    refine lv_iload_n hx hb dX1_step_144 rfl (lv_at hl 2 rfl) ?_
                    refine lv_if_eq (tgt := 165) hx hb dX1_step_145 (by decide) (fun c26 => ?_) (fun c26 => ?_)
                    · exact absurd c26 (by decide)
                    · refine lv_aload_n hx hb dX1_step_148 rfl (lv_at hl 3 rfl) ?_
                      refine va_get (D := (dC, dI)) (ci := 1) (v := .int z20.2.2.2.2.2.2.2.2.2.2.2.2.1) (C := "PagedHartModel") (T := TX1) (N := 18) hx hb hts mU1 hown hK hP 0 rfl rfl 12 (by decide) (hts _ mF_1_21) (fun _ h9 => h9) rfl dX1_step_149 ?_
                      refine lv_iconst (v := (-1)) hx hb dX1_step_152 (by decide) ?_
                      refine lv_icmp_eq (tgt := 165) hx hb dX1_step_153 (by decide) (fun c27 => ?_) (fun c27 => ?_)
                      · refine lv_aload_n hx hb dX1_step_165 rfl (lv_at hl 3 rfl) ?_
                        refine va_get (D := (dC, dI)) (ci := 1) (v := .int z20.2.2.2.2.2.2.2.2.2.2.2.2.1) (C := "PagedHartModel") (T := TX1) (N := 18) hx hb hts mU1 hown hK hP 0 rfl rfl 12 (by decide) (hts _ mF_1_21) (fun _ h9 => h9) rfl dX1_step_166 ?_
                        refine va_put (D := (dC, dI)) (ci := 1) (v := .int z20.2.2.2.2.2.2.2.2.2.2.2.2.1) (ty := .int) (C := "PagedHartModel") (T := TX1) (N := 18) hx hb hts mU1 tyX1 tyX1_ok nmX1 hown hK hP hD hS 0 rfl rfl 12 (by decide) (hts _ mF_1_21) (fun _ h9 => h9) rfl (by decide +kernel) rfl rfl (Nat.le_of_ble_eq_true rfl) dX1_step_169 (fun H locs hP hD hS => ?_)
                        have hP : va_P (dC, dI) vwCl (rW cI h0 qme0 qre1 (z20.1, z20.2.1, z20.2.2.1, z20.2.2.2.2.2.2.2.2.2.2.2.2.2.2.2.2.1, z20.2.2.2.2.1, z20.2.2.2.2.2.1, z20.2.2.2.2.2.2.1, z20.2.2.2.2.2.2.2.1, z20.2.2.2.2.2.2.2.2.1, z20.2.2.2.2.2.2.2.2.2.1, z20.2.2.2.2.2.2.2.2.2.2.1, z20.2.2.2.2.2.2.2.2.2.2.2.1, z20.2.2.2.2.2.2.2.2.2.2.2.2.1, z20.2.2.2.2.2.2.2.2.2.2.2.2.2.1 - (1 : Int32), z20.2.2.2.2.2.2.2.2.2.2.2.2.2.2.1, z20.2.2.2.2.2.2.2.2.2.2.2.2.2.2.2.1, z20.2.2.2.2.2.2.2.2.2.2.2.2.2.2.2.2.1, z20.2.2.2.2.2.2.2.2.2.2.2.2.2.2.2.2.2)) H := hP
                        have hD : va_D (rA h0 qme0 qre1 s.heap.size) (rW cI h0 qme0 qre1 (z20.1, z20.2.1, z20.2.2.1, z20.2.2.2.2.2.2.2.2.2.2.2.2.2.2.2.2.1, z20.2.2.2.2.1, z20.2.2.2.2.2.1, z20.2.2.2.2.2.2.1, z20.2.2.2.2.2.2.2.1, z20.2.2.2.2.2.2.2.2.1, z20.2.2.2.2.2.2.2.2.2.1, z20.2.2.2.2.2.2.2.2.2.2.1, z20.2.2.2.2.2.2.2.2.2.2.2.1, z20.2.2.2.2.2.2.2.2.2.2.2.2.1, z20.2.2.2.2.2.2.2.2.2.2.2.2.2.1 - (1 : Int32), z20.2.2.2.2.2.2.2.2.2.2.2.2.2.2.1, z20.2.2.2.2.2.2.2.2.2.2.2.2.2.2.2.1, z20.2.2.2.2.2.2.2.2.2.2.2.2.2.2.2.2.1, z20.2.2.2.2.2.2.2.2.2.2.2.2.2.2.2.2.2)) := hD
                        exact rVret (u := (z20.1, z20.2.1, z20.2.2.1, z20.2.2.2.2.2.2.2.2.2.2.2.2.2.2.2.2.1, z20.2.2.2.2.1, z20.2.2.2.2.2.1, z20.2.2.2.2.2.2.1, z20.2.2.2.2.2.2.2.1, z20.2.2.2.2.2.2.2.2.1, z20.2.2.2.2.2.2.2.2.2.1, z20.2.2.2.2.2.2.2.2.2.2.1, z20.2.2.2.2.2.2.2.2.2.2.2.1, z20.2.2.2.2.2.2.2.2.2.2.2.2.1, z20.2.2.2.2.2.2.2.2.2.2.2.2.2.1 - (1 : Int32), z20.2.2.2.2.2.2.2.2.2.2.2.2.2.2.1, z20.2.2.2.2.2.2.2.2.2.2.2.2.2.2.2.1, z20.2.2.2.2.2.2.2.2.2.2.2.2.2.2.2.2.1, z20.2.2.2.2.2.2.2.2.2.2.2.2.2.2.2.2.2)) hx hb hr hlocks (by subst ez20 ex19 ex17 ez16; exact (((if_pos c1).trans ((if_neg c13).trans ((if_neg c15).trans ((if_pos c18).trans ((if_pos c21).trans ((if_neg c23).trans ((if_pos c27).trans rfl)))))))).symm) hK hP hD hS dX1_step_172
                      · refine lv_aload_n hx hb dX1_step_156 rfl (lv_at hl 3 rfl) ?_
                        refine va_get (D := (dC, dI)) (ci := 1) (v := .int z20.2.2.2.2.2.2.2.2.2.2.2.2.1) (C := "PagedHartModel") (T := TX1) (N := 18) hx hb hts mU1 hown hK hP 0 rfl rfl 12 (by decide) (hts _ mF_1_21) (fun _ h9 => h9) rfl dX1_step_157 ?_
                        refine lv_iconst (v := 1) hx hb dX1_step_160 (by decide) ?_
                        refine lv_isub hx hb dX1_step_161 ?_
                        refine lv_goto (tgt := 169) hx hb dX1_step_162 (by decide) ?_
                        refine va_put (D := (dC, dI)) (ci := 1) (v := .int (z20.2.2.2.2.2.2.2.2.2.2.2.2.1 - (1 : Int32))) (ty := .int) (C := "PagedHartModel") (T := TX1) (N := 18) hx hb hts mU1 tyX1 tyX1_ok nmX1 hown hK hP hD hS 0 rfl rfl 12 (by decide) (hts _ mF_1_21) (fun _ h9 => h9) rfl (by decide +kernel) rfl rfl (Nat.le_of_ble_eq_true rfl) dX1_step_169 (fun H locs hP hD hS => ?_)
                        have hP : va_P (dC, dI) vwCl (rW cI h0 qme0 qre1 (z20.1, z20.2.1, z20.2.2.1, z20.2.2.2.2.2.2.2.2.2.2.2.2.2.2.2.2.1, z20.2.2.2.2.1, z20.2.2.2.2.2.1, z20.2.2.2.2.2.2.1, z20.2.2.2.2.2.2.2.1, z20.2.2.2.2.2.2.2.2.1, z20.2.2.2.2.2.2.2.2.2.1, z20.2.2.2.2.2.2.2.2.2.2.1, z20.2.2.2.2.2.2.2.2.2.2.2.1, z20.2.2.2.2.2.2.2.2.2.2.2.2.1 - (1 : Int32), z20.2.2.2.2.2.2.2.2.2.2.2.2.2.1 - (1 : Int32), z20.2.2.2.2.2.2.2.2.2.2.2.2.2.2.1, z20.2.2.2.2.2.2.2.2.2.2.2.2.2.2.2.1, z20.2.2.2.2.2.2.2.2.2.2.2.2.2.2.2.2.1, z20.2.2.2.2.2.2.2.2.2.2.2.2.2.2.2.2.2)) H := hP
                        have hD : va_D (rA h0 qme0 qre1 s.heap.size) (rW cI h0 qme0 qre1 (z20.1, z20.2.1, z20.2.2.1, z20.2.2.2.2.2.2.2.2.2.2.2.2.2.2.2.2.1, z20.2.2.2.2.1, z20.2.2.2.2.2.1, z20.2.2.2.2.2.2.1, z20.2.2.2.2.2.2.2.1, z20.2.2.2.2.2.2.2.2.1, z20.2.2.2.2.2.2.2.2.2.1, z20.2.2.2.2.2.2.2.2.2.2.1, z20.2.2.2.2.2.2.2.2.2.2.2.1, z20.2.2.2.2.2.2.2.2.2.2.2.2.1 - (1 : Int32), z20.2.2.2.2.2.2.2.2.2.2.2.2.2.1 - (1 : Int32), z20.2.2.2.2.2.2.2.2.2.2.2.2.2.2.1, z20.2.2.2.2.2.2.2.2.2.2.2.2.2.2.2.1, z20.2.2.2.2.2.2.2.2.2.2.2.2.2.2.2.2.1, z20.2.2.2.2.2.2.2.2.2.2.2.2.2.2.2.2.2)) := hD
                        exact rVret (u := (z20.1, z20.2.1, z20.2.2.1, z20.2.2.2.2.2.2.2.2.2.2.2.2.2.2.2.2.1, z20.2.2.2.2.1, z20.2.2.2.2.2.1, z20.2.2.2.2.2.2.1, z20.2.2.2.2.2.2.2.1, z20.2.2.2.2.2.2.2.2.1, z20.2.2.2.2.2.2.2.2.2.1, z20.2.2.2.2.2.2.2.2.2.2.1, z20.2.2.2.2.2.2.2.2.2.2.2.1, z20.2.2.2.2.2.2.2.2.2.2.2.2.1 - (1 : Int32), z20.2.2.2.2.2.2.2.2.2.2.2.2.2.1 - (1 : Int32), z20.2.2.2.2.2.2.2.2.2.2.2.2.2.2.1, z20.2.2.2.2.2.2.2.2.2.2.2.2.2.2.2.1, z20.2.2.2.2.2.2.2.2.2.2.2.2.2.2.2.2.1, z20.2.2.2.2.2.2.2.2.2.2.2.2.2.2.2.2.2)) hx hb hr hlocks (by subst ez20 ex19 ex17 ez16; exact (((if_pos c1).trans ((if_neg c13).trans ((if_neg c15).trans ((if_pos c18).trans ((if_pos c21).trans ((if_neg c23).trans ((if_neg c27).trans rfl)))))))).symm) hK hP hD hS dX1_step_172
            · exact rVret (u := z16.2) hx hb hr hlocks (by subst ex17 ez16; exact (((if_pos c1).trans ((if_neg c13).trans ((if_neg c15).trans ((if_neg c18).trans rfl))))).symm) hK hP hD hS dX1_step_74
          · refine lv_aload_n hx hb dX1_step_48 rfl (lv_at hl 1 rfl) ?_
            refine lv_ldc (v := (-2147483643)) hx hb hown (hts _ mC_1_101) dX1_step_49 ?_
            refine lv_iconst (v := 0) hx hb dX1_step_51 (by decide) ?_
            refine rMv (As := [.int (-2147483643), .int 0]) (rest := []) (f := r_trap (st.1, st.2.1, st.2.2.1, st.2.2.2.1, st.2.2.2.2.1, st.2.2.2.2.2.1, st.2.2.2.2.2.2.1, st.2.2.2.2.2.2.2.1, st.2.2.2.2.2.2.2.2.1, st.2.2.2.2.2.2.2.2.2.1, st.2.2.2.2.2.2.2.2.2.2.1, st.2.2.2.2.2.2.2.2.2.2.2.1, st.2.2.2.2.2.2.2.2.2.2.2.2.1, st.2.2.2.2.2.2.2.2.2.2.2.2.2.1, st.2.2.2.2.2.2.2.2.2.2.2.2.2.2.1, (0 : Int32), st.2.2.2.2.2.2.2.2.2.2.2.2.2.2.2.2.1, st.2.2.2.2.2.2.2.2.2.2.2.2.2.2.2.2.2) ((-2147483643) : Int32) (0 : Int32)) ⟨hx, hb, hml, hown, hts⟩ (cr_trap l dC dI cI h0 qme0 qre1 tN tB H.size (st.1, st.2.1, st.2.2.1, st.2.2.2.1, st.2.2.2.2.1, st.2.2.2.2.2.1, st.2.2.2.2.2.2.1, st.2.2.2.2.2.2.2.1, st.2.2.2.2.2.2.2.2.1, st.2.2.2.2.2.2.2.2.2.1, st.2.2.2.2.2.2.2.2.2.2.1, st.2.2.2.2.2.2.2.2.2.2.2.1, st.2.2.2.2.2.2.2.2.2.2.2.2.1, st.2.2.2.2.2.2.2.2.2.2.2.2.2.1, st.2.2.2.2.2.2.2.2.2.2.2.2.2.2.1, (0 : Int32), st.2.2.2.2.2.2.2.2.2.2.2.2.2.2.2.2.1, st.2.2.2.2.2.2.2.2.2.2.2.2.2.2.2.2.2) ((-2147483643) : Int32) (0 : Int32)) (cwV 2 hts (gV mL_1_93 mI_1_trap mX_1_trap mN_1 mB_1_trap) rfl rfl rfl (by decide +kernel) ⟨Nat.le_of_ble_eq_true rfl, Nat.le_of_ble_eq_true rfl⟩) hK hP hD hS hZ rfl hl.1 rfl (Nat.le_of_ble_eq_true rfl) dX1_step_52 ⟨Nat.zero_le _, Nat.zero_le _⟩ (fun z28 ez28 H locs hP hD hS => ?_)
            have hP : va_P (dC, dI) vwCl (rW cI h0 qme0 qre1 z28) H := hP
            have hD : va_D (rA h0 qme0 qre1 s.heap.size) (rW cI h0 qme0 qre1 z28) := hD
            exact rVret (u := z28) hx hb hr hlocks (by subst ez28; exact (((if_pos c1).trans ((if_neg c13).trans ((if_pos c15).trans rfl)))).symm) hK hP hD hS dX1_step_55
      · refine lv_aload_n hx hb dX1_step_29 rfl (lv_at hl 1 rfl) ?_
        refine lv_bipush (v := 24) hx hb dX1_step_30 (by decide) ?_
        refine lv_iconst (v := 0) hx hb dX1_step_32 (by decide) ?_
        refine rMv (As := [.int 24, .int 0]) (rest := []) (f := r_trap (st.1, st.2.1, st.2.2.1, st.2.2.2.1, st.2.2.2.2.1, st.2.2.2.2.2.1, st.2.2.2.2.2.2.1, st.2.2.2.2.2.2.2.1, st.2.2.2.2.2.2.2.2.1, st.2.2.2.2.2.2.2.2.2.1, st.2.2.2.2.2.2.2.2.2.2.1, st.2.2.2.2.2.2.2.2.2.2.2.1, st.2.2.2.2.2.2.2.2.2.2.2.2.1, st.2.2.2.2.2.2.2.2.2.2.2.2.2.1, st.2.2.2.2.2.2.2.2.2.2.2.2.2.2.1, (0 : Int32), st.2.2.2.2.2.2.2.2.2.2.2.2.2.2.2.2.1, st.2.2.2.2.2.2.2.2.2.2.2.2.2.2.2.2.2) (24 : Int32) (0 : Int32)) ⟨hx, hb, hml, hown, hts⟩ (cr_trap l dC dI cI h0 qme0 qre1 tN tB H.size (st.1, st.2.1, st.2.2.1, st.2.2.2.1, st.2.2.2.2.1, st.2.2.2.2.2.1, st.2.2.2.2.2.2.1, st.2.2.2.2.2.2.2.1, st.2.2.2.2.2.2.2.2.1, st.2.2.2.2.2.2.2.2.2.1, st.2.2.2.2.2.2.2.2.2.2.1, st.2.2.2.2.2.2.2.2.2.2.2.1, st.2.2.2.2.2.2.2.2.2.2.2.2.1, st.2.2.2.2.2.2.2.2.2.2.2.2.2.1, st.2.2.2.2.2.2.2.2.2.2.2.2.2.2.1, (0 : Int32), st.2.2.2.2.2.2.2.2.2.2.2.2.2.2.2.2.1, st.2.2.2.2.2.2.2.2.2.2.2.2.2.2.2.2.2) (24 : Int32) (0 : Int32)) (cwV 2 hts (gV mL_1_93 mI_1_trap mX_1_trap mN_1 mB_1_trap) rfl rfl rfl (by decide +kernel) ⟨Nat.le_of_ble_eq_true rfl, Nat.le_of_ble_eq_true rfl⟩) hK hP hD hS hZ rfl hl.1 rfl (Nat.le_of_ble_eq_true rfl) dX1_step_33 ⟨Nat.zero_le _, Nat.zero_le _⟩ (fun z29 ez29 H locs hP hD hS => ?_)
        have hP : va_P (dC, dI) vwCl (rW cI h0 qme0 qre1 z29) H := hP
        have hD : va_D (rA h0 qme0 qre1 s.heap.size) (rW cI h0 qme0 qre1 z29) := hD
        exact rVret (u := z29) hx hb hr hlocks (by subst ez29; exact (((if_pos c1).trans ((if_pos c13).trans rfl))).symm) hK hP hD hS dX1_step_36


def r_go : Nat → Int32 → Int32 → RS → Int32 × RS
  | 0, _, k, u => (k, u)
  | n + 1, most, k, u => if most ≤ k then (k, u) else if u.2.2.2.2.2.2.2.2.2.2.2.2.2.2.1 = 0 then r_go n most (k + 1) (r_step u) else (k, u)
set_option maxHeartbeats 4000000 in
set_option maxRecDepth 100000 in
theorem r_runloop {p : Program} {l : Launch} {e : Env} {R : Room} {s : State} {m : MethodId} {args : Array Value} {below : List Frame} {meth : Method} {c : Code} {dC : Nat → ClassId} {dI : Nat → Nat → Nat} {cI h0 qme0 qre1 tN tB : Nat} 
    (hx : p.tables.exec = Jvm.exec) (hb : c.code = cX1_run) (hml : c.maxLocals = 3) (hown : s.vm.findClass "PagedHartModel" = some m.cls) (hts : ∀ w ∈ gBIG, w.before args s = true) (hr : meth.sig.returnType = some .int) (hlocks : meth.locks = false)
    (hK : va_K (dC, dI) vwCl [(cI, .int)] s) (hZ : rZ tN tB (rA h0 qme0 qre1 s.heap.size) s s.heap) {f : Int32 × RS} {most : Int32} (h1 : ¬ most < 0) (h2 : most ≤ (20000 : Int32)) (hRf : 8 ≤ R.frames) (hRl : 197 ≤ R.locals) {u : RS} {H : Heap} {locs : List Loc} {ls : Array Slot} (hf : (r_go 20001 most (0 : Int32) u) = f)
    (hP : va_P (dC, dI) vwCl (rW cI h0 qme0 qre1 u) H) (hD : va_D (rA h0 qme0 qre1 s.heap.size) (rW cI h0 qme0 qre1 u)) (hS : va_S (rA h0 qme0 qre1 s.heap.size) s.heap H locs) (hl : lv_has ls 3 [(2, .int 0), (0, .ref h0), (1, .int most)]) :
    W p l e R s m args below meth c H locs 0 0 (MQ below (va_Qi (fun r v => (r, v) = f) (rB dC dI cI h0 qme0 qre1 (rA h0 qme0 qre1 s.heap.size)) (rA h0 qme0 qre1 s.heap.size)) args s 0 0 (rA h0 qme0 qre1 s.heap.size)) (F0 m 40 ls []) := by
  obtain ⟨j, hj, rfl⟩ := nI_of2 (M := 20000) (n := 20000) rfl h1 h2
  have key : ∀ (n k : Nat) (u : RS) (H : Heap) (locs : List Loc) (ls : Array Slot), k ≤ j → j < k + n → va_P (dC, dI) vwCl (rW cI h0 qme0 qre1 u) H → va_D (rA h0 qme0 qre1 s.heap.size) (rW cI h0 qme0 qre1 u) → va_S (rA h0 qme0 qre1 s.heap.size) s.heap H locs → lv_has ls 3 [(2, .int (nI k)), (0, .ref h0), (1, .int (nI j))] → (r_go n (nI j) (nI k) u) = f → W p l e R s m args below meth c H locs 0 0 (MQ below (va_Qi (fun r v => (r, v) = f) (rB dC dI cI h0 qme0 qre1 (rA h0 qme0 qre1 s.heap.size)) (rA h0 qme0 qre1 s.heap.size)) args s 0 0 (rA h0 qme0 qre1 s.heap.size)) (F0 m 40 ls []) := by
    intro n
    induction n with
    | zero => intro k u H locs ls q1 q2; exact absurd q2 (by omega)
    | succ n ih =>
      intro k u H locs ls q1 q2 hP hD hS hl hf
      refine lv_iload_n hx hb dX1_run_40 rfl (lv_at hl 0 rfl) ?_
      refine lv_iload_n hx hb dX1_run_41 rfl (lv_at hl 2 rfl) ?_
      refine lv_icmp_ge (tgt := 62) hx hb dX1_run_42 (by decide) (fun c1 => ?_) (fun c1 => ?_)
      · refine lv_iload_n hx hb dX1_run_62 rfl (lv_at hl 0 rfl) ?_
        exact rIret (v := nI k) (u := u) hx hb hr hlocks (by rw [← hf, r_go, if_pos c1]) hK hP hD hS dX1_run_63
      · refine lv_aload_n hx hb dX1_run_45 rfl (lv_at hl 1 rfl) ?_
        refine va_get (D := (dC, dI)) (ci := 1) (v := .int u.2.2.2.2.2.2.2.2.2.2.2.2.2.2.1) (C := "PagedHartModel") (T := TX1) (N := 18) hx hb hts mU1 hown hK hP 0 rfl rfl 14 (by decide) (hts _ mF_1_27) (fun _ h9 => h9) rfl dX1_run_46 ?_
        refine lv_if_ne (tgt := 62) hx hb dX1_run_49 (by decide) (fun c2 => ?_) (fun c2 => ?_)
        · refine lv_iload_n hx hb dX1_run_62 rfl (lv_at hl 0 rfl) ?_
          exact rIret (v := nI k) (u := u) hx hb hr hlocks (by rw [← hf, r_go, if_neg c1, if_neg c2]) hK hP hD hS dX1_run_63
        · have hlt : k < j := Nat.lt_of_not_le (fun q => c1 (nI_le q (by omega)))
          refine lv_aload_n hx hb dX1_run_52 rfl (lv_at hl 1 rfl) ?_
          refine rMv (As := []) (rest := []) (f := r_step u) ⟨hx, hb, hml, hown, hts⟩ (cr_step l dC dI cI h0 qme0 qre1 tN tB H.size u) (cwV 0 hts (gV mL_1_182 mI_1_step mX_1_step mN_1 mB_1_step) rfl rfl rfl (by decide +kernel) ⟨hRf, hRl⟩) hK hP hD hS hZ rfl hl.1 rfl (Nat.le_of_ble_eq_true rfl) dX1_run_53 ⟨Nat.zero_le _, Nat.zero_le _⟩ (fun z ez H locs hP hD hS => ?_)
          refine lv_iinc (v := nI (k + 1)) (lv' := [(2, .int (nI (k + 1))), (0, .ref h0), (1, .int (nI j))]) hx hb dX1_run_56 hl (k := 0) rfl (by rw [lit1]; exact nI_1 k) (by decide) rfl (fun ls hl => ?_)
          refine lv_goto (tgt := 40) hx hb dX1_run_59 (by decide) ?_
          refine ih (k + 1) z H locs ls hlt (by omega) hP hD hS hl ?_
          rw [← hf, r_go, if_neg c1, if_pos c2, nI_1, ez]
  exact key 20001 0 u H locs ls (Nat.zero_le _) (by omega) hP hD hS hl hf
def r_run (st : RS) (p1 : Int32) : Int32 × RS :=
  if p1 < 0 then
    ((0 : Int32), ((1 : Int32), st.2.1, st.2.2.1, st.2.2.2.1, st.2.2.2.2.1, st.2.2.2.2.2.1, st.2.2.2.2.2.2.1, st.2.2.2.2.2.2.2.1, st.2.2.2.2.2.2.2.2.1, st.2.2.2.2.2.2.2.2.2.1, st.2.2.2.2.2.2.2.2.2.2.1, st.2.2.2.2.2.2.2.2.2.2.2.1, st.2.2.2.2.2.2.2.2.2.2.2.2.1, st.2.2.2.2.2.2.2.2.2.2.2.2.2.1, st.2.2.2.2.2.2.2.2.2.2.2.2.2.2.1, st.2.2.2.2.2.2.2.2.2.2.2.2.2.2.2.1, st.2.2.2.2.2.2.2.2.2.2.2.2.2.2.2.2.1, st.2.2.2.2.2.2.2.2.2.2.2.2.2.2.2.2.2))
  else
    if p1 ≤ (20000 : Int32) then
      if p1 = 0 then
        ((0 : Int32), ((0 : Int32), st.2.1, st.2.2.1, st.2.2.2.1, st.2.2.2.2.1, st.2.2.2.2.2.1, st.2.2.2.2.2.2.1, st.2.2.2.2.2.2.2.1, st.2.2.2.2.2.2.2.2.1, st.2.2.2.2.2.2.2.2.2.1, st.2.2.2.2.2.2.2.2.2.2.1, st.2.2.2.2.2.2.2.2.2.2.2.1, st.2.2.2.2.2.2.2.2.2.2.2.2.1, st.2.2.2.2.2.2.2.2.2.2.2.2.2.1, st.2.2.2.2.2.2.2.2.2.2.2.2.2.2.1, st.2.2.2.2.2.2.2.2.2.2.2.2.2.2.2.1, st.2.2.2.2.2.2.2.2.2.2.2.2.2.2.2.2.1, st.2.2.2.2.2.2.2.2.2.2.2.2.2.2.2.2.2))
      else
        r_go 20001 p1 (0 : Int32) ((0 : Int32), st.2.1, st.2.2.1, st.2.2.2.1, st.2.2.2.2.1, st.2.2.2.2.2.1, st.2.2.2.2.2.2.1, st.2.2.2.2.2.2.2.1, st.2.2.2.2.2.2.2.2.1, st.2.2.2.2.2.2.2.2.2.1, st.2.2.2.2.2.2.2.2.2.2.1, st.2.2.2.2.2.2.2.2.2.2.2.1, st.2.2.2.2.2.2.2.2.2.2.2.2.1, st.2.2.2.2.2.2.2.2.2.2.2.2.2.1, (0 : Int32), st.2.2.2.2.2.2.2.2.2.2.2.2.2.2.2.1, st.2.2.2.2.2.2.2.2.2.2.2.2.2.2.2.2.1, st.2.2.2.2.2.2.2.2.2.2.2.2.2.2.2.2.2)
    else
      ((0 : Int32), ((1 : Int32), st.2.1, st.2.2.1, st.2.2.2.1, st.2.2.2.2.1, st.2.2.2.2.2.1, st.2.2.2.2.2.2.1, st.2.2.2.2.2.2.2.1, st.2.2.2.2.2.2.2.2.1, st.2.2.2.2.2.2.2.2.2.1, st.2.2.2.2.2.2.2.2.2.2.1, st.2.2.2.2.2.2.2.2.2.2.2.1, st.2.2.2.2.2.2.2.2.2.2.2.2.1, st.2.2.2.2.2.2.2.2.2.2.2.2.2.1, st.2.2.2.2.2.2.2.2.2.2.2.2.2.2.1, st.2.2.2.2.2.2.2.2.2.2.2.2.2.2.2.1, st.2.2.2.2.2.2.2.2.2.2.2.2.2.2.2.2.1, st.2.2.2.2.2.2.2.2.2.2.2.2.2.2.2.2.2))
set_option maxHeartbeats 4000000 in
set_option maxRecDepth 100000 in
theorem cr_run (l : Launch) (dC : Nat → ClassId) (dI : Nat → Nat → Nat) (cI h0 qme0 qre1 tN tB : Nat) (sz : Nat) (st : RS) (p1 : Int32)  : Met l yX1_run (.code yX1_run cX1_run 3 (some .int) :: gBIG) ({ frames := 8, cells := 0, slots := 0, locals := 197 }) (va_Pc [.ref h0, .int p1] (rPre dC dI cI h0 qme0 qre1 tN tB sz st)) (va_Qi (fun r v => (r, v) = r_run st p1) (rB dC dI cI h0 qme0 qre1 (rA h0 qme0 qre1 sz)) (rA h0 qme0 qre1 sz)) 0 0 (rA h0 qme0 qre1 sz) := by
  refine Met.ofW (cc := cX1_run) (maxL := 3) (ret := (some .int)) (by decide) rfl ?_
  intro p e s m args below meth c s₁ B hml hv
  obtain ⟨rfl, hsz, hP, hK, hD0, hZ⟩ := hv
  have hx := B.exec
  have hb := B.bytes
  have hr := B.returns
  have hts : ∀ w ∈ gBIG, w.before _ s = true := fun w h => atoms_spec (ws := (.code yX1_run cX1_run 3 (some .int) :: gBIG)) B.pre w (List.mem_cons_of_mem _ h)
  have hown : s.vm.findClass "PagedHartModel" = some m.cls := findClass_of_methodNamed B.named
  have hlocks := B.notSynchronized
  subst hsz
  have hD : va_D (rA h0 qme0 qre1 s.heap.size) (rW cI h0 qme0 qre1 st) := rD hD0
  have hS : va_S (rA h0 qme0 qre1 s.heap.size) s.heap s.heap [] := va_S.rf
  have hP : va_P (dC, dI) vwCl (rW cI h0 qme0 qre1 st) s.heap := hP
  have hl := lv_entry ([.ref h0, .int p1]) (n := 3) (Nat.le_of_ble_eq_true rfl)
  rw [lg_entry_eq]
  generalize (lg_sl ([.ref h0, .int p1]) ++ List.replicate (3 - (lg_sl ([.ref h0, .int p1])).length) Slot.unset).toArray = ls at hl ⊢
  refine jgo (P := fun H locs => va_P (dC, dI) vwCl (rW cI h0 qme0 qre1 st) H ∧ va_S (rA h0 qme0 qre1 s.heap.size) s.heap H locs) ⟨hP, hS⟩ (fun H locs hPS => ?_)
  obtain ⟨hP, hS⟩ := hPS
  have hl : lv_has ls 3 [(0, .ref h0), (1, .int p1)] := hl
  refine lv_aload_n hx hb dX1_run_0 rfl (lv_at hl 0 rfl) ?_
  refine lv_iload_n hx hb dX1_run_1 rfl (lv_at hl 1 rfl) ?_
  refine lv_if_lt (tgt := 12) hx hb dX1_run_2 (by decide) (fun c1 => ?_) (fun c1 => ?_)
  · refine lv_iconst (v := 1) hx hb dX1_run_12 (by decide) ?_
    refine lv_goto (tgt := 17) hx hb dX1_run_13 (by decide) ?_
    refine va_put (D := (dC, dI)) (ci := 1) (v := .int 1) (ty := .int) (C := "PagedHartModel") (T := TX1) (N := 18) hx hb hts mU1 tyX1 tyX1_ok nmX1 hown hK hP hD hS 0 rfl rfl 0 (by decide) (hts _ mF_1_31) (fun _ h9 => h9) rfl (by decide +kernel) rfl rfl (Nat.le_of_ble_eq_true rfl) dX1_run_17 (fun H locs hP hD hS => ?_)
    have hP : va_P (dC, dI) vwCl (rW cI h0 qme0 qre1 ((1 : Int32), st.2.1, st.2.2.1, st.2.2.2.1, st.2.2.2.2.1, st.2.2.2.2.2.1, st.2.2.2.2.2.2.1, st.2.2.2.2.2.2.2.1, st.2.2.2.2.2.2.2.2.1, st.2.2.2.2.2.2.2.2.2.1, st.2.2.2.2.2.2.2.2.2.2.1, st.2.2.2.2.2.2.2.2.2.2.2.1, st.2.2.2.2.2.2.2.2.2.2.2.2.1, st.2.2.2.2.2.2.2.2.2.2.2.2.2.1, st.2.2.2.2.2.2.2.2.2.2.2.2.2.2.1, st.2.2.2.2.2.2.2.2.2.2.2.2.2.2.2.1, st.2.2.2.2.2.2.2.2.2.2.2.2.2.2.2.2.1, st.2.2.2.2.2.2.2.2.2.2.2.2.2.2.2.2.2)) H := hP
    have hD : va_D (rA h0 qme0 qre1 s.heap.size) (rW cI h0 qme0 qre1 ((1 : Int32), st.2.1, st.2.2.1, st.2.2.2.1, st.2.2.2.2.1, st.2.2.2.2.2.1, st.2.2.2.2.2.2.1, st.2.2.2.2.2.2.2.1, st.2.2.2.2.2.2.2.2.1, st.2.2.2.2.2.2.2.2.2.1, st.2.2.2.2.2.2.2.2.2.2.1, st.2.2.2.2.2.2.2.2.2.2.2.1, st.2.2.2.2.2.2.2.2.2.2.2.2.1, st.2.2.2.2.2.2.2.2.2.2.2.2.2.1, st.2.2.2.2.2.2.2.2.2.2.2.2.2.2.1, st.2.2.2.2.2.2.2.2.2.2.2.2.2.2.2.1, st.2.2.2.2.2.2.2.2.2.2.2.2.2.2.2.2.1, st.2.2.2.2.2.2.2.2.2.2.2.2.2.2.2.2.2)) := hD
    refine lv_aload_n hx hb dX1_run_20 rfl (lv_at hl 0 rfl) ?_
    refine va_get (D := (dC, dI)) (ci := 1) (v := .int 1) (C := "PagedHartModel") (T := TX1) (N := 18) hx hb hts mU1 hown hK hP 0 rfl rfl 0 (by decide) (hts _ mF_1_31) (fun _ h9 => h9) rfl dX1_run_21 ?_
    refine lv_if_gt (tgt := 31) hx hb dX1_run_24 (by decide) (fun c2 => ?_) (fun c2 => ?_)
    · refine lv_iconst (v := 0) hx hb dX1_run_31 (by decide) ?_
      exact rIret (v := 0) (u := ((1 : Int32), st.2.1, st.2.2.1, st.2.2.2.1, st.2.2.2.2.1, st.2.2.2.2.2.1, st.2.2.2.2.2.2.1, st.2.2.2.2.2.2.2.1, st.2.2.2.2.2.2.2.2.1, st.2.2.2.2.2.2.2.2.2.1, st.2.2.2.2.2.2.2.2.2.2.1, st.2.2.2.2.2.2.2.2.2.2.2.1, st.2.2.2.2.2.2.2.2.2.2.2.2.1, st.2.2.2.2.2.2.2.2.2.2.2.2.2.1, st.2.2.2.2.2.2.2.2.2.2.2.2.2.2.1, st.2.2.2.2.2.2.2.2.2.2.2.2.2.2.2.1, st.2.2.2.2.2.2.2.2.2.2.2.2.2.2.2.2.1, st.2.2.2.2.2.2.2.2.2.2.2.2.2.2.2.2.2)) hx hb hr hlocks (by exact (((if_pos c1).trans rfl)).symm) hK hP hD hS dX1_run_32
    · exact (c2 (by decide)).elim
  · refine lv_iload_n hx hb dX1_run_5 rfl (lv_at hl 1 rfl) ?_
    refine lv_sipush (v := 20000) hx hb dX1_run_6 (by decide) ?_
    refine lv_icmp_le (tgt := 16) hx hb dX1_run_9 (by decide) (fun c3 => ?_) (fun c3 => ?_)
    · refine lv_iconst (v := 0) hx hb dX1_run_16 (by decide) ?_
      refine va_put (D := (dC, dI)) (ci := 1) (v := .int 0) (ty := .int) (C := "PagedHartModel") (T := TX1) (N := 18) hx hb hts mU1 tyX1 tyX1_ok nmX1 hown hK hP hD hS 0 rfl rfl 0 (by decide) (hts _ mF_1_31) (fun _ h9 => h9) rfl (by decide +kernel) rfl rfl (Nat.le_of_ble_eq_true rfl) dX1_run_17 (fun H locs hP hD hS => ?_)
      have hP : va_P (dC, dI) vwCl (rW cI h0 qme0 qre1 ((0 : Int32), st.2.1, st.2.2.1, st.2.2.2.1, st.2.2.2.2.1, st.2.2.2.2.2.1, st.2.2.2.2.2.2.1, st.2.2.2.2.2.2.2.1, st.2.2.2.2.2.2.2.2.1, st.2.2.2.2.2.2.2.2.2.1, st.2.2.2.2.2.2.2.2.2.2.1, st.2.2.2.2.2.2.2.2.2.2.2.1, st.2.2.2.2.2.2.2.2.2.2.2.2.1, st.2.2.2.2.2.2.2.2.2.2.2.2.2.1, st.2.2.2.2.2.2.2.2.2.2.2.2.2.2.1, st.2.2.2.2.2.2.2.2.2.2.2.2.2.2.2.1, st.2.2.2.2.2.2.2.2.2.2.2.2.2.2.2.2.1, st.2.2.2.2.2.2.2.2.2.2.2.2.2.2.2.2.2)) H := hP
      have hD : va_D (rA h0 qme0 qre1 s.heap.size) (rW cI h0 qme0 qre1 ((0 : Int32), st.2.1, st.2.2.1, st.2.2.2.1, st.2.2.2.2.1, st.2.2.2.2.2.1, st.2.2.2.2.2.2.1, st.2.2.2.2.2.2.2.1, st.2.2.2.2.2.2.2.2.1, st.2.2.2.2.2.2.2.2.2.1, st.2.2.2.2.2.2.2.2.2.2.1, st.2.2.2.2.2.2.2.2.2.2.2.1, st.2.2.2.2.2.2.2.2.2.2.2.2.1, st.2.2.2.2.2.2.2.2.2.2.2.2.2.1, st.2.2.2.2.2.2.2.2.2.2.2.2.2.2.1, st.2.2.2.2.2.2.2.2.2.2.2.2.2.2.2.1, st.2.2.2.2.2.2.2.2.2.2.2.2.2.2.2.2.1, st.2.2.2.2.2.2.2.2.2.2.2.2.2.2.2.2.2)) := hD
      refine lv_aload_n hx hb dX1_run_20 rfl (lv_at hl 0 rfl) ?_
      refine va_get (D := (dC, dI)) (ci := 1) (v := .int 0) (C := "PagedHartModel") (T := TX1) (N := 18) hx hb hts mU1 hown hK hP 0 rfl rfl 0 (by decide) (hts _ mF_1_31) (fun _ h9 => h9) rfl dX1_run_21 ?_
      refine lv_if_gt (tgt := 31) hx hb dX1_run_24 (by decide) (fun c4 => ?_) (fun c4 => ?_)
      · exact absurd c4 (by decide)
      · refine lv_iload_n hx hb dX1_run_27 rfl (lv_at hl 1 rfl) ?_
        refine lv_if_ne (tgt := 33) hx hb dX1_run_28 (by decide) (fun c5 => ?_) (fun c5 => ?_)
        · refine lv_aload_n hx hb dX1_run_33 rfl (lv_at hl 0 rfl) ?_
          refine lv_iconst (v := 0) hx hb dX1_run_34 (by decide) ?_
          refine va_put (D := (dC, dI)) (ci := 1) (v := .int 0) (ty := .boolean) (C := "PagedHartModel") (T := TX1) (N := 18) hx hb hts mU1 tyX1 tyX1_ok nmX1 hown hK hP hD hS 0 rfl rfl 14 (by decide) (hts _ mF_1_27) (fun _ h9 => h9) rfl (by decide +kernel) rfl rfl (Nat.le_of_ble_eq_true rfl) dX1_run_35 (fun H locs hP hD hS => ?_)
          have hP : va_P (dC, dI) vwCl (rW cI h0 qme0 qre1 ((0 : Int32), st.2.1, st.2.2.1, st.2.2.2.1, st.2.2.2.2.1, st.2.2.2.2.2.1, st.2.2.2.2.2.2.1, st.2.2.2.2.2.2.2.1, st.2.2.2.2.2.2.2.2.1, st.2.2.2.2.2.2.2.2.2.1, st.2.2.2.2.2.2.2.2.2.2.1, st.2.2.2.2.2.2.2.2.2.2.2.1, st.2.2.2.2.2.2.2.2.2.2.2.2.1, st.2.2.2.2.2.2.2.2.2.2.2.2.2.1, (0 : Int32), st.2.2.2.2.2.2.2.2.2.2.2.2.2.2.2.1, st.2.2.2.2.2.2.2.2.2.2.2.2.2.2.2.2.1, st.2.2.2.2.2.2.2.2.2.2.2.2.2.2.2.2.2)) H := hP
          have hD : va_D (rA h0 qme0 qre1 s.heap.size) (rW cI h0 qme0 qre1 ((0 : Int32), st.2.1, st.2.2.1, st.2.2.2.1, st.2.2.2.2.1, st.2.2.2.2.2.1, st.2.2.2.2.2.2.1, st.2.2.2.2.2.2.2.1, st.2.2.2.2.2.2.2.2.1, st.2.2.2.2.2.2.2.2.2.1, st.2.2.2.2.2.2.2.2.2.2.1, st.2.2.2.2.2.2.2.2.2.2.2.1, st.2.2.2.2.2.2.2.2.2.2.2.2.1, st.2.2.2.2.2.2.2.2.2.2.2.2.2.1, (0 : Int32), st.2.2.2.2.2.2.2.2.2.2.2.2.2.2.2.1, st.2.2.2.2.2.2.2.2.2.2.2.2.2.2.2.2.1, st.2.2.2.2.2.2.2.2.2.2.2.2.2.2.2.2.2)) := hD
          refine lv_iconst (v := 0) hx hb dX1_run_38 (by decide) ?_
          refine lv_istore_n (lv' := [(2, .int 0), (0, .ref h0), (1, .int p1)]) hx hb dX1_run_39 rfl hl (by decide) rfl (fun ls hl => ?_)
          exact r_runloop hx hb hml hown hts hr hlocks hK hZ (f := r_run st p1) (most := p1) c1 c3 (Nat.le_of_ble_eq_true rfl) (Nat.le_of_ble_eq_true rfl) (((if_neg c1).trans ((if_pos c3).trans ((if_neg c5).trans rfl)))).symm hP hD hS hl
        · refine lv_iconst (v := 0) hx hb dX1_run_31 (by decide) ?_
          exact rIret (v := 0) (u := ((0 : Int32), st.2.1, st.2.2.1, st.2.2.2.1, st.2.2.2.2.1, st.2.2.2.2.2.1, st.2.2.2.2.2.2.1, st.2.2.2.2.2.2.2.1, st.2.2.2.2.2.2.2.2.1, st.2.2.2.2.2.2.2.2.2.1, st.2.2.2.2.2.2.2.2.2.2.1, st.2.2.2.2.2.2.2.2.2.2.2.1, st.2.2.2.2.2.2.2.2.2.2.2.2.1, st.2.2.2.2.2.2.2.2.2.2.2.2.2.1, st.2.2.2.2.2.2.2.2.2.2.2.2.2.2.1, st.2.2.2.2.2.2.2.2.2.2.2.2.2.2.2.1, st.2.2.2.2.2.2.2.2.2.2.2.2.2.2.2.2.1, st.2.2.2.2.2.2.2.2.2.2.2.2.2.2.2.2.2)) hx hb hr hlocks (by exact (((if_neg c1).trans ((if_pos c3).trans ((if_pos c5).trans rfl)))).symm) hK hP hD hS dX1_run_32
    · refine lv_iconst (v := 1) hx hb dX1_run_12 (by decide) ?_
      refine lv_goto (tgt := 17) hx hb dX1_run_13 (by decide) ?_
      refine va_put (D := (dC, dI)) (ci := 1) (v := .int 1) (ty := .int) (C := "PagedHartModel") (T := TX1) (N := 18) hx hb hts mU1 tyX1 tyX1_ok nmX1 hown hK hP hD hS 0 rfl rfl 0 (by decide) (hts _ mF_1_31) (fun _ h9 => h9) rfl (by decide +kernel) rfl rfl (Nat.le_of_ble_eq_true rfl) dX1_run_17 (fun H locs hP hD hS => ?_)
      have hP : va_P (dC, dI) vwCl (rW cI h0 qme0 qre1 ((1 : Int32), st.2.1, st.2.2.1, st.2.2.2.1, st.2.2.2.2.1, st.2.2.2.2.2.1, st.2.2.2.2.2.2.1, st.2.2.2.2.2.2.2.1, st.2.2.2.2.2.2.2.2.1, st.2.2.2.2.2.2.2.2.2.1, st.2.2.2.2.2.2.2.2.2.2.1, st.2.2.2.2.2.2.2.2.2.2.2.1, st.2.2.2.2.2.2.2.2.2.2.2.2.1, st.2.2.2.2.2.2.2.2.2.2.2.2.2.1, st.2.2.2.2.2.2.2.2.2.2.2.2.2.2.1, st.2.2.2.2.2.2.2.2.2.2.2.2.2.2.2.1, st.2.2.2.2.2.2.2.2.2.2.2.2.2.2.2.2.1, st.2.2.2.2.2.2.2.2.2.2.2.2.2.2.2.2.2)) H := hP
      have hD : va_D (rA h0 qme0 qre1 s.heap.size) (rW cI h0 qme0 qre1 ((1 : Int32), st.2.1, st.2.2.1, st.2.2.2.1, st.2.2.2.2.1, st.2.2.2.2.2.1, st.2.2.2.2.2.2.1, st.2.2.2.2.2.2.2.1, st.2.2.2.2.2.2.2.2.1, st.2.2.2.2.2.2.2.2.2.1, st.2.2.2.2.2.2.2.2.2.2.1, st.2.2.2.2.2.2.2.2.2.2.2.1, st.2.2.2.2.2.2.2.2.2.2.2.2.1, st.2.2.2.2.2.2.2.2.2.2.2.2.2.1, st.2.2.2.2.2.2.2.2.2.2.2.2.2.2.1, st.2.2.2.2.2.2.2.2.2.2.2.2.2.2.2.1, st.2.2.2.2.2.2.2.2.2.2.2.2.2.2.2.2.1, st.2.2.2.2.2.2.2.2.2.2.2.2.2.2.2.2.2)) := hD
      refine lv_aload_n hx hb dX1_run_20 rfl (lv_at hl 0 rfl) ?_
      refine va_get (D := (dC, dI)) (ci := 1) (v := .int 1) (C := "PagedHartModel") (T := TX1) (N := 18) hx hb hts mU1 hown hK hP 0 rfl rfl 0 (by decide) (hts _ mF_1_31) (fun _ h9 => h9) rfl dX1_run_21 ?_
      refine lv_if_gt (tgt := 31) hx hb dX1_run_24 (by decide) (fun c6 => ?_) (fun c6 => ?_)
      · refine lv_iconst (v := 0) hx hb dX1_run_31 (by decide) ?_
        exact rIret (v := 0) (u := ((1 : Int32), st.2.1, st.2.2.1, st.2.2.2.1, st.2.2.2.2.1, st.2.2.2.2.2.1, st.2.2.2.2.2.2.1, st.2.2.2.2.2.2.2.1, st.2.2.2.2.2.2.2.2.1, st.2.2.2.2.2.2.2.2.2.1, st.2.2.2.2.2.2.2.2.2.2.1, st.2.2.2.2.2.2.2.2.2.2.2.1, st.2.2.2.2.2.2.2.2.2.2.2.2.1, st.2.2.2.2.2.2.2.2.2.2.2.2.2.1, st.2.2.2.2.2.2.2.2.2.2.2.2.2.2.1, st.2.2.2.2.2.2.2.2.2.2.2.2.2.2.2.1, st.2.2.2.2.2.2.2.2.2.2.2.2.2.2.2.2.1, st.2.2.2.2.2.2.2.2.2.2.2.2.2.2.2.2.2)) hx hb hr hlocks (by exact (((if_neg c1).trans ((if_neg c3).trans rfl))).symm) hK hP hD hS dX1_run_32
      · exact (c6 (by decide)).elim
