def r_translated (st : RS) (p1 : Int32) (p2 : Int32) : Int32 × RS :=
  let x1 : Int32 := r_has st.2.2.2.2.2.2.2.2.2.2.2.1 (31 : Int32)
  if x1 = 0 then
    let x3 : Int32 := r_isWord p1
    if x3 = 0 then
      let x5 : Int32 := r_accessCause p2
      (p1, (st.1, st.2.1, st.2.2.1, st.2.2.2.1, st.2.2.2.2.1, st.2.2.2.2.2.1, st.2.2.2.2.2.2.1, st.2.2.2.2.2.2.2.1, st.2.2.2.2.2.2.2.2.1, st.2.2.2.2.2.2.2.2.2.1, st.2.2.2.2.2.2.2.2.2.2.1, st.2.2.2.2.2.2.2.2.2.2.2.1, st.2.2.2.2.2.2.2.2.2.2.2.2.1, st.2.2.2.2.2.2.2.2.2.2.2.2.2.1, st.2.2.2.2.2.2.2.2.2.2.2.2.2.2.1, st.2.2.2.2.2.2.2.2.2.2.2.2.2.2.2.1, st.2.2.2.2.2.2.2.2.2.2.2.2.2.2.2.2.1, x5))
    else
      (p1, (st.1, st.2.1, st.2.2.1, st.2.2.2.1, st.2.2.2.2.1, st.2.2.2.2.2.1, st.2.2.2.2.2.2.1, st.2.2.2.2.2.2.2.1, st.2.2.2.2.2.2.2.2.1, st.2.2.2.2.2.2.2.2.2.1, st.2.2.2.2.2.2.2.2.2.2.1, st.2.2.2.2.2.2.2.2.2.2.2.1, st.2.2.2.2.2.2.2.2.2.2.2.2.1, st.2.2.2.2.2.2.2.2.2.2.2.2.2.1, st.2.2.2.2.2.2.2.2.2.2.2.2.2.2.1, st.2.2.2.2.2.2.2.2.2.2.2.2.2.2.2.1, st.2.2.2.2.2.2.2.2.2.2.2.2.2.2.2.2.1, ((-1) : Int32)))
  else
    let x6 : Int32 := r_bits st.2.2.2.2.2.2.2.2.2.2.2.1 (0 : Int32) (21 : Int32)
    let x7 : Int32 := r_bits p1 (22 : Int32) (31 : Int32)
    let x8 : Int32 := (x6 * (4096 : Int32)) + ((4 : Int32) * x7)
    let x9 : Int32 := r_isWord x8
    if x9 = 0 then
      let x55 : Int32 := r_accessCause p2
      ((0 : Int32), (st.1, st.2.1, st.2.2.1, st.2.2.2.1, st.2.2.2.2.1, st.2.2.2.2.2.1, st.2.2.2.2.2.2.1, st.2.2.2.2.2.2.2.1, st.2.2.2.2.2.2.2.2.1, st.2.2.2.2.2.2.2.2.2.1, st.2.2.2.2.2.2.2.2.2.2.1, st.2.2.2.2.2.2.2.2.2.2.2.1, st.2.2.2.2.2.2.2.2.2.2.2.2.1, st.2.2.2.2.2.2.2.2.2.2.2.2.2.1, st.2.2.2.2.2.2.2.2.2.2.2.2.2.2.1, st.2.2.2.2.2.2.2.2.2.2.2.2.2.2.2.1, st.2.2.2.2.2.2.2.2.2.2.2.2.2.2.2.2.1, x55))
    else
      let x11 : Int32 := st.2.1 (x8 / (4 : Int32)).toNatClampNeg
      let x12 : Int32 := r_has x11 (0 : Int32)
      if x12 = 0 then
        let x14 : Int32 := r_lets (st.1, st.2.1, st.2.2.1, st.2.2.2.1, st.2.2.2.2.1, st.2.2.2.2.2.1, st.2.2.2.2.2.2.1, st.2.2.2.2.2.2.2.1, st.2.2.2.2.2.2.2.2.1, st.2.2.2.2.2.2.2.2.2.1, st.2.2.2.2.2.2.2.2.2.2.1, st.2.2.2.2.2.2.2.2.2.2.2.1, st.2.2.2.2.2.2.2.2.2.2.2.2.1, st.2.2.2.2.2.2.2.2.2.2.2.2.2.1, st.2.2.2.2.2.2.2.2.2.2.2.2.2.2.1, st.2.2.2.2.2.2.2.2.2.2.2.2.2.2.2.1, st.2.2.2.2.2.2.2.2.2.2.2.2.2.2.2.2.1, ((-1) : Int32)) x11 p2 (1 : Int32)
        if x14 = 0 then
          let x24 : Int32 := r_pageCause p2
          ((0 : Int32), (st.1, st.2.1, st.2.2.1, st.2.2.2.1, st.2.2.2.2.1, st.2.2.2.2.2.1, st.2.2.2.2.2.2.1, st.2.2.2.2.2.2.2.1, st.2.2.2.2.2.2.2.2.1, st.2.2.2.2.2.2.2.2.2.1, st.2.2.2.2.2.2.2.2.2.2.1, st.2.2.2.2.2.2.2.2.2.2.2.1, st.2.2.2.2.2.2.2.2.2.2.2.2.1, st.2.2.2.2.2.2.2.2.2.2.2.2.2.1, st.2.2.2.2.2.2.2.2.2.2.2.2.2.2.1, st.2.2.2.2.2.2.2.2.2.2.2.2.2.2.2.1, st.2.2.2.2.2.2.2.2.2.2.2.2.2.2.2.2.1, x24))
        else
          let x16 : Int32 := r_bits x11 (10 : Int32) (31 : Int32)
          let x17 : Int32 := r_bits p1 (0 : Int32) (11 : Int32)
          let x19 : Int32 := r_bits p1 (12 : Int32) (21 : Int32)
          let x20 : Int32 := ((x16 * (4096 : Int32)) + x17) + ((4096 : Int32) * x19)
          let x21 : Int32 := r_isWord x20
          if x21 = 0 then
            let x23 : Int32 := r_accessCause p2
            (x20, (st.1, st.2.1, st.2.2.1, st.2.2.2.1, st.2.2.2.2.1, st.2.2.2.2.2.1, st.2.2.2.2.2.2.1, st.2.2.2.2.2.2.2.1, st.2.2.2.2.2.2.2.2.1, st.2.2.2.2.2.2.2.2.2.1, st.2.2.2.2.2.2.2.2.2.2.1, st.2.2.2.2.2.2.2.2.2.2.2.1, st.2.2.2.2.2.2.2.2.2.2.2.2.1, st.2.2.2.2.2.2.2.2.2.2.2.2.2.1, st.2.2.2.2.2.2.2.2.2.2.2.2.2.2.1, st.2.2.2.2.2.2.2.2.2.2.2.2.2.2.2.1, st.2.2.2.2.2.2.2.2.2.2.2.2.2.2.2.2.1, x23))
          else
            (x20, (st.1, st.2.1, st.2.2.1, st.2.2.2.1, st.2.2.2.2.1, st.2.2.2.2.2.1, st.2.2.2.2.2.2.1, st.2.2.2.2.2.2.2.1, st.2.2.2.2.2.2.2.2.1, st.2.2.2.2.2.2.2.2.2.1, st.2.2.2.2.2.2.2.2.2.2.1, st.2.2.2.2.2.2.2.2.2.2.2.1, st.2.2.2.2.2.2.2.2.2.2.2.2.1, st.2.2.2.2.2.2.2.2.2.2.2.2.2.1, st.2.2.2.2.2.2.2.2.2.2.2.2.2.2.1, st.2.2.2.2.2.2.2.2.2.2.2.2.2.2.2.1, st.2.2.2.2.2.2.2.2.2.2.2.2.2.2.2.2.1, ((-1) : Int32)))
      else
        let x25 : Int32 := r_bits x11 (1 : Int32) (3 : Int32)
        if x25 = 0 then
          let x38 : Int32 := r_bits x11 (10 : Int32) (31 : Int32)
          let x39 : Int32 := r_bits p1 (12 : Int32) (21 : Int32)
          let x40 : Int32 := (x38 * (4096 : Int32)) + ((4 : Int32) * x39)
          let x41 : Int32 := r_isWord x40
          if x41 = 0 then
            let x54 : Int32 := r_accessCause p2
            ((0 : Int32), (st.1, st.2.1, st.2.2.1, st.2.2.2.1, st.2.2.2.2.1, st.2.2.2.2.2.1, st.2.2.2.2.2.2.1, st.2.2.2.2.2.2.2.1, st.2.2.2.2.2.2.2.2.1, st.2.2.2.2.2.2.2.2.2.1, st.2.2.2.2.2.2.2.2.2.2.1, st.2.2.2.2.2.2.2.2.2.2.2.1, st.2.2.2.2.2.2.2.2.2.2.2.2.1, st.2.2.2.2.2.2.2.2.2.2.2.2.2.1, st.2.2.2.2.2.2.2.2.2.2.2.2.2.2.1, st.2.2.2.2.2.2.2.2.2.2.2.2.2.2.2.1, st.2.2.2.2.2.2.2.2.2.2.2.2.2.2.2.2.1, x54))
          else
            let x43 : Int32 := st.2.1 (x40 / (4 : Int32)).toNatClampNeg
            let x44 : Int32 := r_lets (st.1, st.2.1, st.2.2.1, st.2.2.2.1, st.2.2.2.2.1, st.2.2.2.2.2.1, st.2.2.2.2.2.2.1, st.2.2.2.2.2.2.2.1, st.2.2.2.2.2.2.2.2.1, st.2.2.2.2.2.2.2.2.2.1, st.2.2.2.2.2.2.2.2.2.2.1, st.2.2.2.2.2.2.2.2.2.2.2.1, st.2.2.2.2.2.2.2.2.2.2.2.2.1, st.2.2.2.2.2.2.2.2.2.2.2.2.2.1, st.2.2.2.2.2.2.2.2.2.2.2.2.2.2.1, st.2.2.2.2.2.2.2.2.2.2.2.2.2.2.2.1, st.2.2.2.2.2.2.2.2.2.2.2.2.2.2.2.2.1, ((-1) : Int32)) x43 p2 (0 : Int32)
            if x44 = 0 then
              let x53 : Int32 := r_pageCause p2
              ((0 : Int32), (st.1, st.2.1, st.2.2.1, st.2.2.2.1, st.2.2.2.2.1, st.2.2.2.2.2.1, st.2.2.2.2.2.2.1, st.2.2.2.2.2.2.2.1, st.2.2.2.2.2.2.2.2.1, st.2.2.2.2.2.2.2.2.2.1, st.2.2.2.2.2.2.2.2.2.2.1, st.2.2.2.2.2.2.2.2.2.2.2.1, st.2.2.2.2.2.2.2.2.2.2.2.2.1, st.2.2.2.2.2.2.2.2.2.2.2.2.2.1, st.2.2.2.2.2.2.2.2.2.2.2.2.2.2.1, st.2.2.2.2.2.2.2.2.2.2.2.2.2.2.2.1, st.2.2.2.2.2.2.2.2.2.2.2.2.2.2.2.2.1, x53))
            else
              let x46 : Int32 := r_bits x43 (10 : Int32) (31 : Int32)
              let x47 : Int32 := r_bits p1 (0 : Int32) (11 : Int32)
              let x49 : Int32 := ((x46 * (4096 : Int32)) + x47) + (0 : Int32)
              let x50 : Int32 := r_isWord x49
              if x50 = 0 then
                let x52 : Int32 := r_accessCause p2
                (x49, (st.1, st.2.1, st.2.2.1, st.2.2.2.1, st.2.2.2.2.1, st.2.2.2.2.2.1, st.2.2.2.2.2.2.1, st.2.2.2.2.2.2.2.1, st.2.2.2.2.2.2.2.2.1, st.2.2.2.2.2.2.2.2.2.1, st.2.2.2.2.2.2.2.2.2.2.1, st.2.2.2.2.2.2.2.2.2.2.2.1, st.2.2.2.2.2.2.2.2.2.2.2.2.1, st.2.2.2.2.2.2.2.2.2.2.2.2.2.1, st.2.2.2.2.2.2.2.2.2.2.2.2.2.2.1, st.2.2.2.2.2.2.2.2.2.2.2.2.2.2.2.1, st.2.2.2.2.2.2.2.2.2.2.2.2.2.2.2.2.1, x52))
              else
                (x49, (st.1, st.2.1, st.2.2.1, st.2.2.2.1, st.2.2.2.2.1, st.2.2.2.2.2.1, st.2.2.2.2.2.2.1, st.2.2.2.2.2.2.2.1, st.2.2.2.2.2.2.2.2.1, st.2.2.2.2.2.2.2.2.2.1, st.2.2.2.2.2.2.2.2.2.2.1, st.2.2.2.2.2.2.2.2.2.2.2.1, st.2.2.2.2.2.2.2.2.2.2.2.2.1, st.2.2.2.2.2.2.2.2.2.2.2.2.2.1, st.2.2.2.2.2.2.2.2.2.2.2.2.2.2.1, st.2.2.2.2.2.2.2.2.2.2.2.2.2.2.2.1, st.2.2.2.2.2.2.2.2.2.2.2.2.2.2.2.2.1, ((-1) : Int32)))
        else
          let x27 : Int32 := r_lets (st.1, st.2.1, st.2.2.1, st.2.2.2.1, st.2.2.2.2.1, st.2.2.2.2.2.1, st.2.2.2.2.2.2.1, st.2.2.2.2.2.2.2.1, st.2.2.2.2.2.2.2.2.1, st.2.2.2.2.2.2.2.2.2.1, st.2.2.2.2.2.2.2.2.2.2.1, st.2.2.2.2.2.2.2.2.2.2.2.1, st.2.2.2.2.2.2.2.2.2.2.2.2.1, st.2.2.2.2.2.2.2.2.2.2.2.2.2.1, st.2.2.2.2.2.2.2.2.2.2.2.2.2.2.1, st.2.2.2.2.2.2.2.2.2.2.2.2.2.2.2.1, st.2.2.2.2.2.2.2.2.2.2.2.2.2.2.2.2.1, ((-1) : Int32)) x11 p2 (1 : Int32)
          if x27 = 0 then
            let x37 : Int32 := r_pageCause p2
            ((0 : Int32), (st.1, st.2.1, st.2.2.1, st.2.2.2.1, st.2.2.2.2.1, st.2.2.2.2.2.1, st.2.2.2.2.2.2.1, st.2.2.2.2.2.2.2.1, st.2.2.2.2.2.2.2.2.1, st.2.2.2.2.2.2.2.2.2.1, st.2.2.2.2.2.2.2.2.2.2.1, st.2.2.2.2.2.2.2.2.2.2.2.1, st.2.2.2.2.2.2.2.2.2.2.2.2.1, st.2.2.2.2.2.2.2.2.2.2.2.2.2.1, st.2.2.2.2.2.2.2.2.2.2.2.2.2.2.1, st.2.2.2.2.2.2.2.2.2.2.2.2.2.2.2.1, st.2.2.2.2.2.2.2.2.2.2.2.2.2.2.2.2.1, x37))
          else
            let x29 : Int32 := r_bits x11 (10 : Int32) (31 : Int32)
            let x30 : Int32 := r_bits p1 (0 : Int32) (11 : Int32)
            let x32 : Int32 := r_bits p1 (12 : Int32) (21 : Int32)
            let x33 : Int32 := ((x29 * (4096 : Int32)) + x30) + ((4096 : Int32) * x32)
            let x34 : Int32 := r_isWord x33
            if x34 = 0 then
              let x36 : Int32 := r_accessCause p2
              (x33, (st.1, st.2.1, st.2.2.1, st.2.2.2.1, st.2.2.2.2.1, st.2.2.2.2.2.1, st.2.2.2.2.2.2.1, st.2.2.2.2.2.2.2.1, st.2.2.2.2.2.2.2.2.1, st.2.2.2.2.2.2.2.2.2.1, st.2.2.2.2.2.2.2.2.2.2.1, st.2.2.2.2.2.2.2.2.2.2.2.1, st.2.2.2.2.2.2.2.2.2.2.2.2.1, st.2.2.2.2.2.2.2.2.2.2.2.2.2.1, st.2.2.2.2.2.2.2.2.2.2.2.2.2.2.1, st.2.2.2.2.2.2.2.2.2.2.2.2.2.2.2.1, st.2.2.2.2.2.2.2.2.2.2.2.2.2.2.2.2.1, x36))
            else
              (x33, (st.1, st.2.1, st.2.2.1, st.2.2.2.1, st.2.2.2.2.1, st.2.2.2.2.2.1, st.2.2.2.2.2.2.1, st.2.2.2.2.2.2.2.1, st.2.2.2.2.2.2.2.2.1, st.2.2.2.2.2.2.2.2.2.1, st.2.2.2.2.2.2.2.2.2.2.1, st.2.2.2.2.2.2.2.2.2.2.2.1, st.2.2.2.2.2.2.2.2.2.2.2.2.1, st.2.2.2.2.2.2.2.2.2.2.2.2.2.1, st.2.2.2.2.2.2.2.2.2.2.2.2.2.2.1, st.2.2.2.2.2.2.2.2.2.2.2.2.2.2.2.1, st.2.2.2.2.2.2.2.2.2.2.2.2.2.2.2.2.1, ((-1) : Int32)))
set_option maxHeartbeats 4000000 in
set_option maxRecDepth 100000 in
theorem cr_translated (l : Launch) (dC : Nat → ClassId) (dI : Nat → Nat → Nat) (cI h0 qme0 qre1 tN tB : Nat) (sz : Nat) (st : RS) (p1 : Int32) (p2 : Int32)  : Met l yX1_translated (.code yX1_translated cX1_translated 7 (some .int) :: gBIG) ({ frames := 3, cells := 0, slots := 0, locals := 66 }) (va_Pc [.ref h0, .int p1, .int p2] (rPre dC dI cI h0 qme0 qre1 tN tB sz st)) (va_Qi (fun r v => (r, v) = r_translated st p1 p2) (rB dC dI cI h0 qme0 qre1 (rA h0 qme0 qre1 sz)) (rA h0 qme0 qre1 sz)) 0 0 (rA h0 qme0 qre1 sz) := by
  refine Met.ofW (cc := cX1_translated) (maxL := 7) (ret := (some .int)) (by decide) rfl ?_
  intro p e s m args below meth c s₁ B hml hv
  obtain ⟨rfl, hsz, hP, hK, hD0, hZ⟩ := hv
  have hx := B.exec
  have hb := B.bytes
  have hr := B.returns
  have hts : ∀ w ∈ gBIG, w.before _ s = true := fun w h => atoms_spec (ws := (.code yX1_translated cX1_translated 7 (some .int) :: gBIG)) B.pre w (List.mem_cons_of_mem _ h)
  have hown : s.vm.findClass "PagedHartModel" = some m.cls := findClass_of_methodNamed B.named
  have hlocks := B.notSynchronized
  subst hsz
  have hD : va_D (rA h0 qme0 qre1 s.heap.size) (rW cI h0 qme0 qre1 st) := rD hD0
  have hS : va_S (rA h0 qme0 qre1 s.heap.size) s.heap s.heap [] := va_S.rf
  have hP : va_P (dC, dI) vwCl (rW cI h0 qme0 qre1 st) s.heap := hP
  have hl := lv_entry ([.ref h0, .int p1, .int p2]) (n := 7) (Nat.le_of_ble_eq_true rfl)
  rw [lg_entry_eq]
  generalize (lg_sl ([.ref h0, .int p1, .int p2]) ++ List.replicate (7 - (lg_sl ([.ref h0, .int p1, .int p2])).length) Slot.unset).toArray = ls at hl ⊢
  refine jgo (P := fun H locs => va_P (dC, dI) vwCl (rW cI h0 qme0 qre1 st) H ∧ va_S (rA h0 qme0 qre1 s.heap.size) s.heap H locs) ⟨hP, hS⟩ (fun H locs hPS => ?_)
  obtain ⟨hP, hS⟩ := hPS
  have hl : lv_has ls 7 [(0, .ref h0), (1, .int p1), (2, .int p2)] := hl
  refine lv_aload_n hx hb dX1_translated_0 rfl (lv_at hl 0 rfl) ?_
  refine lv_iconst (v := (-1)) hx hb dX1_translated_1 (by decide) ?_
  refine va_put (D := (dC, dI)) (ci := 1) (v := .int (-1)) (ty := .int) (C := "PagedHartModel") (T := TX1) (N := 18) hx hb hts mU1 tyX1 tyX1_ok nmX1 hown hK hP hD hS 0 rfl rfl 17 (by decide) (hts _ mF_1_54) (fun _ h9 => h9) rfl (by decide +kernel) rfl rfl (Nat.le_of_ble_eq_true rfl) dX1_translated_2 (fun H locs hP hD hS => ?_)
  have hP : va_P (dC, dI) vwCl (rW cI h0 qme0 qre1 (st.1, st.2.1, st.2.2.1, st.2.2.2.1, st.2.2.2.2.1, st.2.2.2.2.2.1, st.2.2.2.2.2.2.1, st.2.2.2.2.2.2.2.1, st.2.2.2.2.2.2.2.2.1, st.2.2.2.2.2.2.2.2.2.1, st.2.2.2.2.2.2.2.2.2.2.1, st.2.2.2.2.2.2.2.2.2.2.2.1, st.2.2.2.2.2.2.2.2.2.2.2.2.1, st.2.2.2.2.2.2.2.2.2.2.2.2.2.1, st.2.2.2.2.2.2.2.2.2.2.2.2.2.2.1, st.2.2.2.2.2.2.2.2.2.2.2.2.2.2.2.1, st.2.2.2.2.2.2.2.2.2.2.2.2.2.2.2.2.1, ((-1) : Int32))) H := hP
  have hD : va_D (rA h0 qme0 qre1 s.heap.size) (rW cI h0 qme0 qre1 (st.1, st.2.1, st.2.2.1, st.2.2.2.1, st.2.2.2.2.1, st.2.2.2.2.2.1, st.2.2.2.2.2.2.1, st.2.2.2.2.2.2.2.1, st.2.2.2.2.2.2.2.2.1, st.2.2.2.2.2.2.2.2.2.1, st.2.2.2.2.2.2.2.2.2.2.1, st.2.2.2.2.2.2.2.2.2.2.2.1, st.2.2.2.2.2.2.2.2.2.2.2.2.1, st.2.2.2.2.2.2.2.2.2.2.2.2.2.1, st.2.2.2.2.2.2.2.2.2.2.2.2.2.2.1, st.2.2.2.2.2.2.2.2.2.2.2.2.2.2.2.1, st.2.2.2.2.2.2.2.2.2.2.2.2.2.2.2.2.1, ((-1) : Int32))) := hD
  refine lv_iload_n hx hb dX1_translated_5 rfl (lv_at hl 1 rfl) ?_
  refine lv_istore_n (lv' := [(3, .int p1), (0, .ref h0), (1, .int p1), (2, .int p2)]) hx hb dX1_translated_6 rfl hl (by decide) rfl (fun ls hl => ?_)
  refine lv_aload_n hx hb dX1_translated_7 rfl (lv_at hl 1 rfl) ?_
  refine va_get (D := (dC, dI)) (ci := 1) (v := .int st.2.2.2.2.2.2.2.2.2.2.2.1) (C := "PagedHartModel") (T := TX1) (N := 18) hx hb hts mU1 hown hK hP 0 rfl rfl 11 (by decide) (hts _ mF_1_57) (fun _ h9 => h9) rfl dX1_translated_8 ?_
  refine lv_bipush (v := 31) hx hb dX1_translated_11 (by decide) ?_
  refine W.callR (W.runS (As := [.int st.2.2.2.2.2.2.2.2.2.2.2.1, .int 31]) (rest := []) ⟨hx, hb, hml, hown, hts⟩ (cr_has l st.2.2.2.2.2.2.2.2.2.2.2.1 (31 : Int32)) (cwS 2 hts (gS mL_1_42 mS_1_has mN_1 mB_1_has) rfl rfl rfl (by decide +kernel) ⟨Nat.le_of_ble_eq_true rfl, Nat.le_of_ble_eq_true rfl⟩) ⟨jblind, fun _ _ _ => ⟨rfl, trivial⟩⟩ rfl rfl hl.1 rfl (lv_room (Nat.le_of_ble_eq_true rfl)) dX1_translated_13 ⟨Nat.zero_le _, Nat.zero_le _⟩) ?_
  refine W.eq (g2 := F0 m 16 ls (.int (r_has st.2.2.2.2.2.2.2.2.2.2.2.1 (31 : Int32)) :: [])) rfl ?_
  refine lv_topi (fun x1 ex1 => ?_)
  refine lv_if_eq (tgt := 221) hx hb dX1_translated_16 (by decide) (fun c2 => ?_) (fun c2 => ?_)
  · refine lv_iload_n hx hb dX1_translated_221 rfl (lv_at hl 0 rfl) ?_
    refine W.callR (W.runS (As := [.int p1]) (rest := []) ⟨hx, hb, hml, hown, hts⟩ (cr_isWord l p1) (cwS 1 hts (gS mL_1_60 mS_1_isWord mN_1 mB_1_isWord) rfl rfl rfl (by decide +kernel) ⟨Nat.le_of_ble_eq_true rfl, Nat.le_of_ble_eq_true rfl⟩) ⟨jblind, fun _ _ _ => ⟨rfl, trivial⟩⟩ rfl rfl hl.1 rfl (lv_room (Nat.le_of_ble_eq_true rfl)) dX1_translated_222 ⟨Nat.zero_le _, Nat.zero_le _⟩) ?_
    refine W.eq (g2 := F0 m 225 ls (.int (r_isWord p1) :: [])) rfl ?_
    refine lv_topi (fun x3 ex3 => ?_)
    refine lv_if_ne (tgt := 236) hx hb dX1_translated_225 (by decide) (fun c4 => ?_) (fun c4 => ?_)
    · refine lv_iload_n hx hb dX1_translated_236 rfl (lv_at hl 0 rfl) ?_
      exact rIret (v := p1) (u := (st.1, st.2.1, st.2.2.1, st.2.2.2.1, st.2.2.2.2.1, st.2.2.2.2.2.1, st.2.2.2.2.2.2.1, st.2.2.2.2.2.2.2.1, st.2.2.2.2.2.2.2.2.1, st.2.2.2.2.2.2.2.2.2.1, st.2.2.2.2.2.2.2.2.2.2.1, st.2.2.2.2.2.2.2.2.2.2.2.1, st.2.2.2.2.2.2.2.2.2.2.2.2.1, st.2.2.2.2.2.2.2.2.2.2.2.2.2.1, st.2.2.2.2.2.2.2.2.2.2.2.2.2.2.1, st.2.2.2.2.2.2.2.2.2.2.2.2.2.2.2.1, st.2.2.2.2.2.2.2.2.2.2.2.2.2.2.2.2.1, ((-1) : Int32))) hx hb hr hlocks (by subst ex3 ex1; exact (((if_pos c2).trans ((if_neg c4).trans rfl))).symm) hK hP hD hS dX1_translated_237
    · refine lv_aload_n hx hb dX1_translated_228 rfl (lv_at hl 1 rfl) ?_
      refine lv_iload_n hx hb dX1_translated_229 rfl (lv_at hl 3 rfl) ?_
      refine W.callR (W.runS (As := [.int p2]) (rest := [.ref h0]) ⟨hx, hb, hml, hown, hts⟩ (cr_accessCause l p2) (cwS 1 hts (gS mL_1_64 mS_1_accessCause mN_1 mB_1_accessCause) rfl rfl rfl (by decide +kernel) ⟨Nat.le_of_ble_eq_true rfl, Nat.le_of_ble_eq_true rfl⟩) ⟨jblind, fun _ _ _ => ⟨rfl, trivial⟩⟩ rfl rfl hl.1 rfl (lv_room (Nat.le_of_ble_eq_true rfl)) dX1_translated_230 ⟨Nat.zero_le _, Nat.zero_le _⟩) ?_
      refine W.eq (g2 := F0 m 233 ls (.int (r_accessCause p2) :: [.ref h0])) rfl ?_
      refine lv_topi (fun x5 ex5 => ?_)
      refine va_put (D := (dC, dI)) (ci := 1) (v := .int x5) (ty := .int) (C := "PagedHartModel") (T := TX1) (N := 18) hx hb hts mU1 tyX1 tyX1_ok nmX1 hown hK hP hD hS 0 rfl rfl 17 (by decide) (hts _ mF_1_54) (fun _ h9 => h9) rfl (by decide +kernel) rfl rfl (Nat.le_of_ble_eq_true rfl) dX1_translated_233 (fun H locs hP hD hS => ?_)
      have hP : va_P (dC, dI) vwCl (rW cI h0 qme0 qre1 (st.1, st.2.1, st.2.2.1, st.2.2.2.1, st.2.2.2.2.1, st.2.2.2.2.2.1, st.2.2.2.2.2.2.1, st.2.2.2.2.2.2.2.1, st.2.2.2.2.2.2.2.2.1, st.2.2.2.2.2.2.2.2.2.1, st.2.2.2.2.2.2.2.2.2.2.1, st.2.2.2.2.2.2.2.2.2.2.2.1, st.2.2.2.2.2.2.2.2.2.2.2.2.1, st.2.2.2.2.2.2.2.2.2.2.2.2.2.1, st.2.2.2.2.2.2.2.2.2.2.2.2.2.2.1, st.2.2.2.2.2.2.2.2.2.2.2.2.2.2.2.1, st.2.2.2.2.2.2.2.2.2.2.2.2.2.2.2.2.1, x5)) H := hP
      have hD : va_D (rA h0 qme0 qre1 s.heap.size) (rW cI h0 qme0 qre1 (st.1, st.2.1, st.2.2.1, st.2.2.2.1, st.2.2.2.2.1, st.2.2.2.2.2.1, st.2.2.2.2.2.2.1, st.2.2.2.2.2.2.2.1, st.2.2.2.2.2.2.2.2.1, st.2.2.2.2.2.2.2.2.2.1, st.2.2.2.2.2.2.2.2.2.2.1, st.2.2.2.2.2.2.2.2.2.2.2.1, st.2.2.2.2.2.2.2.2.2.2.2.2.1, st.2.2.2.2.2.2.2.2.2.2.2.2.2.1, st.2.2.2.2.2.2.2.2.2.2.2.2.2.2.1, st.2.2.2.2.2.2.2.2.2.2.2.2.2.2.2.1, st.2.2.2.2.2.2.2.2.2.2.2.2.2.2.2.2.1, x5)) := hD
      refine lv_iload_n hx hb dX1_translated_236 rfl (lv_at hl 0 rfl) ?_
      exact rIret (v := p1) (u := (st.1, st.2.1, st.2.2.1, st.2.2.2.1, st.2.2.2.2.1, st.2.2.2.2.2.1, st.2.2.2.2.2.2.1, st.2.2.2.2.2.2.2.1, st.2.2.2.2.2.2.2.2.1, st.2.2.2.2.2.2.2.2.2.1, st.2.2.2.2.2.2.2.2.2.2.1, st.2.2.2.2.2.2.2.2.2.2.2.1, st.2.2.2.2.2.2.2.2.2.2.2.2.1, st.2.2.2.2.2.2.2.2.2.2.2.2.2.1, st.2.2.2.2.2.2.2.2.2.2.2.2.2.2.1, st.2.2.2.2.2.2.2.2.2.2.2.2.2.2.2.1, st.2.2.2.2.2.2.2.2.2.2.2.2.2.2.2.2.1, x5)) hx hb hr hlocks (by subst ex5 ex3 ex1; exact (((if_pos c2).trans ((if_pos c4).trans rfl))).symm) hK hP hD hS dX1_translated_237
  · refine lv_aload_n hx hb dX1_translated_19 rfl (lv_at hl 1 rfl) ?_
    refine va_get (D := (dC, dI)) (ci := 1) (v := .int st.2.2.2.2.2.2.2.2.2.2.2.1) (C := "PagedHartModel") (T := TX1) (N := 18) hx hb hts mU1 hown hK hP 0 rfl rfl 11 (by decide) (hts _ mF_1_57) (fun _ h9 => h9) rfl dX1_translated_20 ?_
    refine lv_iconst (v := 0) hx hb dX1_translated_23 (by decide) ?_
    refine lv_bipush (v := 21) hx hb dX1_translated_24 (by decide) ?_
    refine W.callR (W.runS (As := [.int st.2.2.2.2.2.2.2.2.2.2.2.1, .int 0, .int 21]) (rest := []) ⟨hx, hb, hml, hown, hts⟩ (cr_bits l st.2.2.2.2.2.2.2.2.2.2.2.1 (0 : Int32) (21 : Int32)) (cwS 3 hts (gS mL_1_46 mS_1_bits mN_1 mB_1_bits) rfl rfl rfl (by decide +kernel) ⟨Nat.le_of_ble_eq_true rfl, Nat.le_of_ble_eq_true rfl⟩) ⟨jblind, fun _ _ _ => ⟨rfl, trivial⟩⟩ rfl rfl hl.1 rfl (lv_room (Nat.le_of_ble_eq_true rfl)) dX1_translated_26 ⟨Nat.zero_le _, Nat.zero_le _⟩) ?_
    refine W.eq (g2 := F0 m 29 ls (.int (r_bits st.2.2.2.2.2.2.2.2.2.2.2.1 (0 : Int32) (21 : Int32)) :: [])) rfl ?_
    refine lv_topi (fun x6 ex6 => ?_)
    refine lv_sipush (v := 4096) hx hb dX1_translated_29 (by decide) ?_
    refine lv_imul hx hb dX1_translated_32 ?_
    refine lv_iconst (v := 4) hx hb dX1_translated_33 (by decide) ?_
    refine lv_iload_n hx hb dX1_translated_34 rfl (lv_at hl 2 rfl) ?_
    refine lv_bipush (v := 22) hx hb dX1_translated_35 (by decide) ?_
    refine lv_bipush (v := 31) hx hb dX1_translated_37 (by decide) ?_
    refine W.callR (W.runS (As := [.int p1, .int 22, .int 31]) (rest := [.int 4, .int (x6 * (4096 : Int32))]) ⟨hx, hb, hml, hown, hts⟩ (cr_bits l p1 (22 : Int32) (31 : Int32)) (cwS 3 hts (gS mL_1_46 mS_1_bits mN_1 mB_1_bits) rfl rfl rfl (by decide +kernel) ⟨Nat.le_of_ble_eq_true rfl, Nat.le_of_ble_eq_true rfl⟩) ⟨jblind, fun _ _ _ => ⟨rfl, trivial⟩⟩ rfl rfl hl.1 rfl (lv_room (Nat.le_of_ble_eq_true rfl)) dX1_translated_39 ⟨Nat.zero_le _, Nat.zero_le _⟩) ?_
    refine W.eq (g2 := F0 m 42 ls (.int (r_bits p1 (22 : Int32) (31 : Int32)) :: [.int 4, .int (x6 * (4096 : Int32))])) rfl ?_
    refine lv_topi (fun x7 ex7 => ?_)
    refine lv_imul hx hb dX1_translated_42 ?_
    refine lv_iadd hx hb dX1_translated_43 ?_
    refine lv_topi (fun x8 ex8 => ?_)
    refine lv_istore (lv' := [(4, .int x8), (3, .int p1), (0, .ref h0), (1, .int p1), (2, .int p2)]) hx hb dX1_translated_44 hl (by decide) rfl (fun ls hl => ?_)
    refine lv_iload hx hb dX1_translated_46 (lv_at hl 0 rfl) ?_
    refine W.callR (W.runS (As := [.int x8]) (rest := []) ⟨hx, hb, hml, hown, hts⟩ (cr_isWord l x8) (cwS 1 hts (gS mL_1_60 mS_1_isWord mN_1 mB_1_isWord) rfl rfl rfl (by decide +kernel) ⟨Nat.le_of_ble_eq_true rfl, Nat.le_of_ble_eq_true rfl⟩) ⟨jblind, fun _ _ _ => ⟨rfl, trivial⟩⟩ rfl rfl hl.1 rfl (lv_room (Nat.le_of_ble_eq_true rfl)) dX1_translated_48 ⟨Nat.zero_le _, Nat.zero_le _⟩) ?_
    refine W.eq (g2 := F0 m 51 ls (.int (r_isWord x8) :: [])) rfl ?_
    refine lv_topi (fun x9 ex9 => ?_)
    refine lv_if_ne (tgt := 64) hx hb dX1_translated_51 (by decide) (fun c10 => ?_) (fun c10 => ?_)
    · refine lv_aload_n hx hb dX1_translated_64 rfl (lv_at hl 2 rfl) ?_
      refine va_get (D := (dC, dI)) (ci := 1) (v := .ref qme0) (C := "PagedHartModel") (T := TX1) (N := 18) hx hb hts mU1 hown hK hP 0 rfl rfl 1 (by decide) (hts _ mF_1_8) (fun _ h9 => h9) rfl dX1_translated_65 ?_
      refine lv_iload hx hb dX1_translated_68 (lv_at hl 0 rfl) ?_
      refine lv_iconst (v := 4) hx hb dX1_translated_70 (by decide) ?_
      refine lv_idiv hx hb dX1_translated_71 (by decide) ?_
      refine va_iald (D := (dC, dI)) hx hb hK hP 1 0 rfl rfl (r_in1 (by rw [← ex9]; exact c10)) dX1_translated_72 ?_
      refine lv_topi (fun x11 ex11 => ?_)
      refine lv_istore (lv' := [(5, .int x11), (4, .int x8), (3, .int p1), (0, .ref h0), (1, .int p1), (2, .int p2)]) hx hb dX1_translated_73 hl (by decide) rfl (fun ls hl => ?_)
      refine lv_iconst (v := 1) hx hb dX1_translated_75 (by decide) ?_
      refine lv_istore (lv' := [(6, .int 1), (5, .int x11), (4, .int x8), (3, .int p1), (0, .ref h0), (1, .int p1), (2, .int p2)]) hx hb dX1_translated_76 hl (by decide) rfl (fun ls hl => ?_)
      refine lv_iload hx hb dX1_translated_78 (lv_at hl 1 rfl) ?_
      refine lv_iconst (v := 0) hx hb dX1_translated_80 (by decide) ?_
      refine W.callR (W.runS (As := [.int x11, .int 0]) (rest := []) ⟨hx, hb, hml, hown, hts⟩ (cr_has l x11 (0 : Int32)) (cwS 2 hts (gS mL_1_42 mS_1_has mN_1 mB_1_has) rfl rfl rfl (by decide +kernel) ⟨Nat.le_of_ble_eq_true rfl, Nat.le_of_ble_eq_true rfl⟩) ⟨jblind, fun _ _ _ => ⟨rfl, trivial⟩⟩ rfl rfl hl.1 rfl (lv_room (Nat.le_of_ble_eq_true rfl)) dX1_translated_81 ⟨Nat.zero_le _, Nat.zero_le _⟩) ?_
      refine W.eq (g2 := F0 m 84 ls (.int (r_has x11 (0 : Int32)) :: [])) rfl ?_
      refine lv_topi (fun x12 ex12 => ?_)
      refine lv_if_eq (tgt := 155) hx hb dX1_translated_84 (by decide) (fun c13 => ?_) (fun c13 => ?_)
      · refine lv_aload_n hx hb dX1_translated_155 rfl (lv_at hl 4 rfl) ?_
        refine lv_iload hx hb dX1_translated_156 (lv_at hl 1 rfl) ?_
        refine lv_iload_n hx hb dX1_translated_158 rfl (lv_at hl 6 rfl) ?_
        refine lv_iload hx hb dX1_translated_159 (lv_at hl 0 rfl) ?_
        refine rR (As := [.int x11, .int p2, .int 1]) (rest := []) (f := r_lets (st.1, st.2.1, st.2.2.1, st.2.2.2.1, st.2.2.2.2.1, st.2.2.2.2.2.1, st.2.2.2.2.2.2.1, st.2.2.2.2.2.2.2.1, st.2.2.2.2.2.2.2.2.1, st.2.2.2.2.2.2.2.2.2.1, st.2.2.2.2.2.2.2.2.2.2.1, st.2.2.2.2.2.2.2.2.2.2.2.1, st.2.2.2.2.2.2.2.2.2.2.2.2.1, st.2.2.2.2.2.2.2.2.2.2.2.2.2.1, st.2.2.2.2.2.2.2.2.2.2.2.2.2.2.1, st.2.2.2.2.2.2.2.2.2.2.2.2.2.2.2.1, st.2.2.2.2.2.2.2.2.2.2.2.2.2.2.2.2.1, ((-1) : Int32)) x11 p2 (1 : Int32)) ⟨hx, hb, hml, hown, hts⟩ (cr_lets l dC dI cI h0 qme0 qre1 tN tB H.size (st.1, st.2.1, st.2.2.1, st.2.2.2.1, st.2.2.2.2.1, st.2.2.2.2.2.1, st.2.2.2.2.2.2.1, st.2.2.2.2.2.2.2.1, st.2.2.2.2.2.2.2.2.1, st.2.2.2.2.2.2.2.2.2.1, st.2.2.2.2.2.2.2.2.2.2.1, st.2.2.2.2.2.2.2.2.2.2.2.1, st.2.2.2.2.2.2.2.2.2.2.2.2.1, st.2.2.2.2.2.2.2.2.2.2.2.2.2.1, st.2.2.2.2.2.2.2.2.2.2.2.2.2.2.1, st.2.2.2.2.2.2.2.2.2.2.2.2.2.2.2.1, st.2.2.2.2.2.2.2.2.2.2.2.2.2.2.2.2.1, ((-1) : Int32)) x11 p2 (1 : Int32)) (cwV 3 hts (gV mL_1_68 mI_1_lets mX_1_lets mN_1 mB_1_lets) rfl rfl rfl (by decide +kernel) ⟨Nat.le_of_ble_eq_true rfl, Nat.le_of_ble_eq_true rfl⟩) hK hP hD hS hZ rfl hl.1 rfl (Nat.le_of_ble_eq_true rfl) dX1_translated_161 ⟨Nat.zero_le _, Nat.zero_le _⟩ ?_
        refine lv_topi (fun x14 ex14 => ?_)
        refine lv_if_ne (tgt := 177) hx hb dX1_translated_164 (by decide) (fun c15 => ?_) (fun c15 => ?_)
        · refine lv_iload hx hb dX1_translated_177 (lv_at hl 1 rfl) ?_
          refine lv_bipush (v := 10) hx hb dX1_translated_179 (by decide) ?_
          refine lv_bipush (v := 31) hx hb dX1_translated_181 (by decide) ?_
          refine W.callR (W.runS (As := [.int x11, .int 10, .int 31]) (rest := []) ⟨hx, hb, hml, hown, hts⟩ (cr_bits l x11 (10 : Int32) (31 : Int32)) (cwS 3 hts (gS mL_1_46 mS_1_bits mN_1 mB_1_bits) rfl rfl rfl (by decide +kernel) ⟨Nat.le_of_ble_eq_true rfl, Nat.le_of_ble_eq_true rfl⟩) ⟨jblind, fun _ _ _ => ⟨rfl, trivial⟩⟩ rfl rfl hl.1 rfl (lv_room (Nat.le_of_ble_eq_true rfl)) dX1_translated_183 ⟨Nat.zero_le _, Nat.zero_le _⟩) ?_
          refine W.eq (g2 := F0 m 186 ls (.int (r_bits x11 (10 : Int32) (31 : Int32)) :: [])) rfl ?_
          refine lv_topi (fun x16 ex16 => ?_)
          refine lv_sipush (v := 4096) hx hb dX1_translated_186 (by decide) ?_
          refine lv_imul hx hb dX1_translated_189 ?_
          refine lv_iload_n hx hb dX1_translated_190 rfl (lv_at hl 5 rfl) ?_
          refine lv_iconst (v := 0) hx hb dX1_translated_191 (by decide) ?_
          refine lv_bipush (v := 11) hx hb dX1_translated_192 (by decide) ?_
          refine W.callR (W.runS (As := [.int p1, .int 0, .int 11]) (rest := [.int (x16 * (4096 : Int32))]) ⟨hx, hb, hml, hown, hts⟩ (cr_bits l p1 (0 : Int32) (11 : Int32)) (cwS 3 hts (gS mL_1_46 mS_1_bits mN_1 mB_1_bits) rfl rfl rfl (by decide +kernel) ⟨Nat.le_of_ble_eq_true rfl, Nat.le_of_ble_eq_true rfl⟩) ⟨jblind, fun _ _ _ => ⟨rfl, trivial⟩⟩ rfl rfl hl.1 rfl (lv_room (Nat.le_of_ble_eq_true rfl)) dX1_translated_194 ⟨Nat.zero_le _, Nat.zero_le _⟩) ?_
          refine W.eq (g2 := F0 m 197 ls (.int (r_bits p1 (0 : Int32) (11 : Int32)) :: [.int (x16 * (4096 : Int32))])) rfl ?_
          refine lv_topi (fun x17 ex17 => ?_)
          refine lv_iadd hx hb dX1_translated_197 ?_
          refine lv_iload hx hb dX1_translated_198 (lv_at hl 0 rfl) ?_
          refine lv_if_eq (tgt := 218) hx hb dX1_translated_200 (by decide) (fun c18 => ?_) (fun c18 => ?_)
          · exact absurd c18 (by decide)
          · refine lv_sipush (v := 4096) hx hb dX1_translated_203 (by decide) ?_
            refine lv_iload_n hx hb dX1_translated_206 rfl (lv_at hl 5 rfl) ?_
            refine lv_bipush (v := 12) hx hb dX1_translated_207 (by decide) ?_
            refine lv_bipush (v := 21) hx hb dX1_translated_209 (by decide) ?_
            refine W.callR (W.runS (As := [.int p1, .int 12, .int 21]) (rest := [.int 4096, .int ((x16 * (4096 : Int32)) + x17)]) ⟨hx, hb, hml, hown, hts⟩ (cr_bits l p1 (12 : Int32) (21 : Int32)) (cwS 3 hts (gS mL_1_46 mS_1_bits mN_1 mB_1_bits) rfl rfl rfl (by decide +kernel) ⟨Nat.le_of_ble_eq_true rfl, Nat.le_of_ble_eq_true rfl⟩) ⟨jblind, fun _ _ _ => ⟨rfl, trivial⟩⟩ rfl rfl hl.1 rfl (lv_room (Nat.le_of_ble_eq_true rfl)) dX1_translated_211 ⟨Nat.zero_le _, Nat.zero_le _⟩) ?_
            refine W.eq (g2 := F0 m 214 ls (.int (r_bits p1 (12 : Int32) (21 : Int32)) :: [.int 4096, .int ((x16 * (4096 : Int32)) + x17)])) rfl ?_
            refine lv_topi (fun x19 ex19 => ?_)
            refine lv_imul hx hb dX1_translated_214 ?_
            refine lv_goto (tgt := 219) hx hb dX1_translated_215 (by decide) ?_
            refine lv_iadd hx hb dX1_translated_219 ?_
            refine lv_topi (fun x20 ex20 => ?_)
            refine lv_istore_n (lv' := [(3, .int x20), (6, .int 1), (5, .int x11), (4, .int x8), (0, .ref h0), (1, .int p1), (2, .int p2)]) hx hb dX1_translated_220 rfl hl (by decide) rfl (fun ls hl => ?_)
            refine lv_iload_n hx hb dX1_translated_221 rfl (lv_at hl 0 rfl) ?_
            refine W.callR (W.runS (As := [.int x20]) (rest := []) ⟨hx, hb, hml, hown, hts⟩ (cr_isWord l x20) (cwS 1 hts (gS mL_1_60 mS_1_isWord mN_1 mB_1_isWord) rfl rfl rfl (by decide +kernel) ⟨Nat.le_of_ble_eq_true rfl, Nat.le_of_ble_eq_true rfl⟩) ⟨jblind, fun _ _ _ => ⟨rfl, trivial⟩⟩ rfl rfl hl.1 rfl (lv_room (Nat.le_of_ble_eq_true rfl)) dX1_translated_222 ⟨Nat.zero_le _, Nat.zero_le _⟩) ?_
            refine W.eq (g2 := F0 m 225 ls (.int (r_isWord x20) :: [])) rfl ?_
            refine lv_topi (fun x21 ex21 => ?_)
            refine lv_if_ne (tgt := 236) hx hb dX1_translated_225 (by decide) (fun c22 => ?_) (fun c22 => ?_)
            · refine lv_iload_n hx hb dX1_translated_236 rfl (lv_at hl 0 rfl) ?_
              exact rIret (v := x20) (u := (st.1, st.2.1, st.2.2.1, st.2.2.2.1, st.2.2.2.2.1, st.2.2.2.2.2.1, st.2.2.2.2.2.2.1, st.2.2.2.2.2.2.2.1, st.2.2.2.2.2.2.2.2.1, st.2.2.2.2.2.2.2.2.2.1, st.2.2.2.2.2.2.2.2.2.2.1, st.2.2.2.2.2.2.2.2.2.2.2.1, st.2.2.2.2.2.2.2.2.2.2.2.2.1, st.2.2.2.2.2.2.2.2.2.2.2.2.2.1, st.2.2.2.2.2.2.2.2.2.2.2.2.2.2.1, st.2.2.2.2.2.2.2.2.2.2.2.2.2.2.2.1, st.2.2.2.2.2.2.2.2.2.2.2.2.2.2.2.2.1, ((-1) : Int32))) hx hb hr hlocks (by subst ex21 ex20 ex19 ex17 ex16 ex14 ex12 ex11 ex9 ex8 ex7 ex6 ex1; exact (((if_neg c2).trans ((if_neg c10).trans ((if_pos c13).trans ((if_neg c15).trans ((if_neg c22).trans rfl)))))).symm) hK hP hD hS dX1_translated_237
            · refine lv_aload_n hx hb dX1_translated_228 rfl (lv_at hl 4 rfl) ?_
              refine lv_iload_n hx hb dX1_translated_229 rfl (lv_at hl 6 rfl) ?_
              refine W.callR (W.runS (As := [.int p2]) (rest := [.ref h0]) ⟨hx, hb, hml, hown, hts⟩ (cr_accessCause l p2) (cwS 1 hts (gS mL_1_64 mS_1_accessCause mN_1 mB_1_accessCause) rfl rfl rfl (by decide +kernel) ⟨Nat.le_of_ble_eq_true rfl, Nat.le_of_ble_eq_true rfl⟩) ⟨jblind, fun _ _ _ => ⟨rfl, trivial⟩⟩ rfl rfl hl.1 rfl (lv_room (Nat.le_of_ble_eq_true rfl)) dX1_translated_230 ⟨Nat.zero_le _, Nat.zero_le _⟩) ?_
              refine W.eq (g2 := F0 m 233 ls (.int (r_accessCause p2) :: [.ref h0])) rfl ?_
              refine lv_topi (fun x23 ex23 => ?_)
              refine va_put (D := (dC, dI)) (ci := 1) (v := .int x23) (ty := .int) (C := "PagedHartModel") (T := TX1) (N := 18) hx hb hts mU1 tyX1 tyX1_ok nmX1 hown hK hP hD hS 0 rfl rfl 17 (by decide) (hts _ mF_1_54) (fun _ h9 => h9) rfl (by decide +kernel) rfl rfl (Nat.le_of_ble_eq_true rfl) dX1_translated_233 (fun H locs hP hD hS => ?_)
              have hP : va_P (dC, dI) vwCl (rW cI h0 qme0 qre1 (st.1, st.2.1, st.2.2.1, st.2.2.2.1, st.2.2.2.2.1, st.2.2.2.2.2.1, st.2.2.2.2.2.2.1, st.2.2.2.2.2.2.2.1, st.2.2.2.2.2.2.2.2.1, st.2.2.2.2.2.2.2.2.2.1, st.2.2.2.2.2.2.2.2.2.2.1, st.2.2.2.2.2.2.2.2.2.2.2.1, st.2.2.2.2.2.2.2.2.2.2.2.2.1, st.2.2.2.2.2.2.2.2.2.2.2.2.2.1, st.2.2.2.2.2.2.2.2.2.2.2.2.2.2.1, st.2.2.2.2.2.2.2.2.2.2.2.2.2.2.2.1, st.2.2.2.2.2.2.2.2.2.2.2.2.2.2.2.2.1, x23)) H := hP
              have hD : va_D (rA h0 qme0 qre1 s.heap.size) (rW cI h0 qme0 qre1 (st.1, st.2.1, st.2.2.1, st.2.2.2.1, st.2.2.2.2.1, st.2.2.2.2.2.1, st.2.2.2.2.2.2.1, st.2.2.2.2.2.2.2.1, st.2.2.2.2.2.2.2.2.1, st.2.2.2.2.2.2.2.2.2.1, st.2.2.2.2.2.2.2.2.2.2.1, st.2.2.2.2.2.2.2.2.2.2.2.1, st.2.2.2.2.2.2.2.2.2.2.2.2.1, st.2.2.2.2.2.2.2.2.2.2.2.2.2.1, st.2.2.2.2.2.2.2.2.2.2.2.2.2.2.1, st.2.2.2.2.2.2.2.2.2.2.2.2.2.2.2.1, st.2.2.2.2.2.2.2.2.2.2.2.2.2.2.2.2.1, x23)) := hD
              refine lv_iload_n hx hb dX1_translated_236 rfl (lv_at hl 0 rfl) ?_
              exact rIret (v := x20) (u := (st.1, st.2.1, st.2.2.1, st.2.2.2.1, st.2.2.2.2.1, st.2.2.2.2.2.1, st.2.2.2.2.2.2.1, st.2.2.2.2.2.2.2.1, st.2.2.2.2.2.2.2.2.1, st.2.2.2.2.2.2.2.2.2.1, st.2.2.2.2.2.2.2.2.2.2.1, st.2.2.2.2.2.2.2.2.2.2.2.1, st.2.2.2.2.2.2.2.2.2.2.2.2.1, st.2.2.2.2.2.2.2.2.2.2.2.2.2.1, st.2.2.2.2.2.2.2.2.2.2.2.2.2.2.1, st.2.2.2.2.2.2.2.2.2.2.2.2.2.2.2.1, st.2.2.2.2.2.2.2.2.2.2.2.2.2.2.2.2.1, x23)) hx hb hr hlocks (by subst ex23 ex21 ex20 ex19 ex17 ex16 ex14 ex12 ex11 ex9 ex8 ex7 ex6 ex1; exact (((if_neg c2).trans ((if_neg c10).trans ((if_pos c13).trans ((if_neg c15).trans ((if_pos c22).trans rfl)))))).symm) hK hP hD hS dX1_translated_237
        · refine lv_aload_n hx hb dX1_translated_167 rfl (lv_at hl 4 rfl) ?_
          refine lv_iload_n hx hb dX1_translated_168 rfl (lv_at hl 6 rfl) ?_
          refine W.callR (W.runS (As := [.int p2]) (rest := [.ref h0]) ⟨hx, hb, hml, hown, hts⟩ (cr_pageCause l p2) (cwS 1 hts (gS mL_1_72 mS_1_pageCause mN_1 mB_1_pageCause) rfl rfl rfl (by decide +kernel) ⟨Nat.le_of_ble_eq_true rfl, Nat.le_of_ble_eq_true rfl⟩) ⟨jblind, fun _ _ _ => ⟨rfl, trivial⟩⟩ rfl rfl hl.1 rfl (lv_room (Nat.le_of_ble_eq_true rfl)) dX1_translated_169 ⟨Nat.zero_le _, Nat.zero_le _⟩) ?_
          refine W.eq (g2 := F0 m 172 ls (.int (r_pageCause p2) :: [.ref h0])) rfl ?_
          refine lv_topi (fun x24 ex24 => ?_)
          refine va_put (D := (dC, dI)) (ci := 1) (v := .int x24) (ty := .int) (C := "PagedHartModel") (T := TX1) (N := 18) hx hb hts mU1 tyX1 tyX1_ok nmX1 hown hK hP hD hS 0 rfl rfl 17 (by decide) (hts _ mF_1_54) (fun _ h9 => h9) rfl (by decide +kernel) rfl rfl (Nat.le_of_ble_eq_true rfl) dX1_translated_172 (fun H locs hP hD hS => ?_)
          have hP : va_P (dC, dI) vwCl (rW cI h0 qme0 qre1 (st.1, st.2.1, st.2.2.1, st.2.2.2.1, st.2.2.2.2.1, st.2.2.2.2.2.1, st.2.2.2.2.2.2.1, st.2.2.2.2.2.2.2.1, st.2.2.2.2.2.2.2.2.1, st.2.2.2.2.2.2.2.2.2.1, st.2.2.2.2.2.2.2.2.2.2.1, st.2.2.2.2.2.2.2.2.2.2.2.1, st.2.2.2.2.2.2.2.2.2.2.2.2.1, st.2.2.2.2.2.2.2.2.2.2.2.2.2.1, st.2.2.2.2.2.2.2.2.2.2.2.2.2.2.1, st.2.2.2.2.2.2.2.2.2.2.2.2.2.2.2.1, st.2.2.2.2.2.2.2.2.2.2.2.2.2.2.2.2.1, x24)) H := hP
          have hD : va_D (rA h0 qme0 qre1 s.heap.size) (rW cI h0 qme0 qre1 (st.1, st.2.1, st.2.2.1, st.2.2.2.1, st.2.2.2.2.1, st.2.2.2.2.2.1, st.2.2.2.2.2.2.1, st.2.2.2.2.2.2.2.1, st.2.2.2.2.2.2.2.2.1, st.2.2.2.2.2.2.2.2.2.1, st.2.2.2.2.2.2.2.2.2.2.1, st.2.2.2.2.2.2.2.2.2.2.2.1, st.2.2.2.2.2.2.2.2.2.2.2.2.1, st.2.2.2.2.2.2.2.2.2.2.2.2.2.1, st.2.2.2.2.2.2.2.2.2.2.2.2.2.2.1, st.2.2.2.2.2.2.2.2.2.2.2.2.2.2.2.1, st.2.2.2.2.2.2.2.2.2.2.2.2.2.2.2.2.1, x24)) := hD
          refine lv_iconst (v := 0) hx hb dX1_translated_175 (by decide) ?_
          exact rIret (v := 0) (u := (st.1, st.2.1, st.2.2.1, st.2.2.2.1, st.2.2.2.2.1, st.2.2.2.2.2.1, st.2.2.2.2.2.2.1, st.2.2.2.2.2.2.2.1, st.2.2.2.2.2.2.2.2.1, st.2.2.2.2.2.2.2.2.2.1, st.2.2.2.2.2.2.2.2.2.2.1, st.2.2.2.2.2.2.2.2.2.2.2.1, st.2.2.2.2.2.2.2.2.2.2.2.2.1, st.2.2.2.2.2.2.2.2.2.2.2.2.2.1, st.2.2.2.2.2.2.2.2.2.2.2.2.2.2.1, st.2.2.2.2.2.2.2.2.2.2.2.2.2.2.2.1, st.2.2.2.2.2.2.2.2.2.2.2.2.2.2.2.2.1, x24)) hx hb hr hlocks (by subst ex24 ex14 ex12 ex11 ex9 ex8 ex7 ex6 ex1; exact (((if_neg c2).trans ((if_neg c10).trans ((if_pos c13).trans ((if_pos c15).trans rfl))))).symm) hK hP hD hS dX1_translated_176
      · refine lv_iload hx hb dX1_translated_87 (lv_at hl 1 rfl) ?_
        refine lv_iconst (v := 1) hx hb dX1_translated_89 (by decide) ?_
        refine lv_iconst (v := 3) hx hb dX1_translated_90 (by decide) ?_
        refine W.callR (W.runS (As := [.int x11, .int 1, .int 3]) (rest := []) ⟨hx, hb, hml, hown, hts⟩ (cr_bits l x11 (1 : Int32) (3 : Int32)) (cwS 3 hts (gS mL_1_46 mS_1_bits mN_1 mB_1_bits) rfl rfl rfl (by decide +kernel) ⟨Nat.le_of_ble_eq_true rfl, Nat.le_of_ble_eq_true rfl⟩) ⟨jblind, fun _ _ _ => ⟨rfl, trivial⟩⟩ rfl rfl hl.1 rfl (lv_room (Nat.le_of_ble_eq_true rfl)) dX1_translated_91 ⟨Nat.zero_le _, Nat.zero_le _⟩) ?_
        refine W.eq (g2 := F0 m 94 ls (.int (r_bits x11 (1 : Int32) (3 : Int32)) :: [])) rfl ?_
        refine lv_topi (fun x25 ex25 => ?_)
        refine lv_if_ne (tgt := 155) hx hb dX1_translated_94 (by decide) (fun c26 => ?_) (fun c26 => ?_)
        · refine lv_aload_n hx hb dX1_translated_155 rfl (lv_at hl 4 rfl) ?_
          refine lv_iload hx hb dX1_translated_156 (lv_at hl 1 rfl) ?_
          refine lv_iload_n hx hb dX1_translated_158 rfl (lv_at hl 6 rfl) ?_
          refine lv_iload hx hb dX1_translated_159 (lv_at hl 0 rfl) ?_
          refine rR (As := [.int x11, .int p2, .int 1]) (rest := []) (f := r_lets (st.1, st.2.1, st.2.2.1, st.2.2.2.1, st.2.2.2.2.1, st.2.2.2.2.2.1, st.2.2.2.2.2.2.1, st.2.2.2.2.2.2.2.1, st.2.2.2.2.2.2.2.2.1, st.2.2.2.2.2.2.2.2.2.1, st.2.2.2.2.2.2.2.2.2.2.1, st.2.2.2.2.2.2.2.2.2.2.2.1, st.2.2.2.2.2.2.2.2.2.2.2.2.1, st.2.2.2.2.2.2.2.2.2.2.2.2.2.1, st.2.2.2.2.2.2.2.2.2.2.2.2.2.2.1, st.2.2.2.2.2.2.2.2.2.2.2.2.2.2.2.1, st.2.2.2.2.2.2.2.2.2.2.2.2.2.2.2.2.1, ((-1) : Int32)) x11 p2 (1 : Int32)) ⟨hx, hb, hml, hown, hts⟩ (cr_lets l dC dI cI h0 qme0 qre1 tN tB H.size (st.1, st.2.1, st.2.2.1, st.2.2.2.1, st.2.2.2.2.1, st.2.2.2.2.2.1, st.2.2.2.2.2.2.1, st.2.2.2.2.2.2.2.1, st.2.2.2.2.2.2.2.2.1, st.2.2.2.2.2.2.2.2.2.1, st.2.2.2.2.2.2.2.2.2.2.1, st.2.2.2.2.2.2.2.2.2.2.2.1, st.2.2.2.2.2.2.2.2.2.2.2.2.1, st.2.2.2.2.2.2.2.2.2.2.2.2.2.1, st.2.2.2.2.2.2.2.2.2.2.2.2.2.2.1, st.2.2.2.2.2.2.2.2.2.2.2.2.2.2.2.1, st.2.2.2.2.2.2.2.2.2.2.2.2.2.2.2.2.1, ((-1) : Int32)) x11 p2 (1 : Int32)) (cwV 3 hts (gV mL_1_68 mI_1_lets mX_1_lets mN_1 mB_1_lets) rfl rfl rfl (by decide +kernel) ⟨Nat.le_of_ble_eq_true rfl, Nat.le_of_ble_eq_true rfl⟩) hK hP hD hS hZ rfl hl.1 rfl (Nat.le_of_ble_eq_true rfl) dX1_translated_161 ⟨Nat.zero_le _, Nat.zero_le _⟩ ?_
          refine lv_topi (fun x27 ex27 => ?_)
          refine lv_if_ne (tgt := 177) hx hb dX1_translated_164 (by decide) (fun c28 => ?_) (fun c28 => ?_)
          · refine lv_iload hx hb dX1_translated_177 (lv_at hl 1 rfl) ?_
            refine lv_bipush (v := 10) hx hb dX1_translated_179 (by decide) ?_
            refine lv_bipush (v := 31) hx hb dX1_translated_181 (by decide) ?_
            refine W.callR (W.runS (As := [.int x11, .int 10, .int 31]) (rest := []) ⟨hx, hb, hml, hown, hts⟩ (cr_bits l x11 (10 : Int32) (31 : Int32)) (cwS 3 hts (gS mL_1_46 mS_1_bits mN_1 mB_1_bits) rfl rfl rfl (by decide +kernel) ⟨Nat.le_of_ble_eq_true rfl, Nat.le_of_ble_eq_true rfl⟩) ⟨jblind, fun _ _ _ => ⟨rfl, trivial⟩⟩ rfl rfl hl.1 rfl (lv_room (Nat.le_of_ble_eq_true rfl)) dX1_translated_183 ⟨Nat.zero_le _, Nat.zero_le _⟩) ?_
            refine W.eq (g2 := F0 m 186 ls (.int (r_bits x11 (10 : Int32) (31 : Int32)) :: [])) rfl ?_
            refine lv_topi (fun x29 ex29 => ?_)
            refine lv_sipush (v := 4096) hx hb dX1_translated_186 (by decide) ?_
            refine lv_imul hx hb dX1_translated_189 ?_
            refine lv_iload_n hx hb dX1_translated_190 rfl (lv_at hl 5 rfl) ?_
            refine lv_iconst (v := 0) hx hb dX1_translated_191 (by decide) ?_
            refine lv_bipush (v := 11) hx hb dX1_translated_192 (by decide) ?_
            refine W.callR (W.runS (As := [.int p1, .int 0, .int 11]) (rest := [.int (x29 * (4096 : Int32))]) ⟨hx, hb, hml, hown, hts⟩ (cr_bits l p1 (0 : Int32) (11 : Int32)) (cwS 3 hts (gS mL_1_46 mS_1_bits mN_1 mB_1_bits) rfl rfl rfl (by decide +kernel) ⟨Nat.le_of_ble_eq_true rfl, Nat.le_of_ble_eq_true rfl⟩) ⟨jblind, fun _ _ _ => ⟨rfl, trivial⟩⟩ rfl rfl hl.1 rfl (lv_room (Nat.le_of_ble_eq_true rfl)) dX1_translated_194 ⟨Nat.zero_le _, Nat.zero_le _⟩) ?_
            refine W.eq (g2 := F0 m 197 ls (.int (r_bits p1 (0 : Int32) (11 : Int32)) :: [.int (x29 * (4096 : Int32))])) rfl ?_
            refine lv_topi (fun x30 ex30 => ?_)
            refine lv_iadd hx hb dX1_translated_197 ?_
            refine lv_iload hx hb dX1_translated_198 (lv_at hl 0 rfl) ?_
            refine lv_if_eq (tgt := 218) hx hb dX1_translated_200 (by decide) (fun c31 => ?_) (fun c31 => ?_)
            · exact absurd c31 (by decide)
            · refine lv_sipush (v := 4096) hx hb dX1_translated_203 (by decide) ?_
              refine lv_iload_n hx hb dX1_translated_206 rfl (lv_at hl 5 rfl) ?_
              refine lv_bipush (v := 12) hx hb dX1_translated_207 (by decide) ?_
              refine lv_bipush (v := 21) hx hb dX1_translated_209 (by decide) ?_
              refine W.callR (W.runS (As := [.int p1, .int 12, .int 21]) (rest := [.int 4096, .int ((x29 * (4096 : Int32)) + x30)]) ⟨hx, hb, hml, hown, hts⟩ (cr_bits l p1 (12 : Int32) (21 : Int32)) (cwS 3 hts (gS mL_1_46 mS_1_bits mN_1 mB_1_bits) rfl rfl rfl (by decide +kernel) ⟨Nat.le_of_ble_eq_true rfl, Nat.le_of_ble_eq_true rfl⟩) ⟨jblind, fun _ _ _ => ⟨rfl, trivial⟩⟩ rfl rfl hl.1 rfl (lv_room (Nat.le_of_ble_eq_true rfl)) dX1_translated_211 ⟨Nat.zero_le _, Nat.zero_le _⟩) ?_
              refine W.eq (g2 := F0 m 214 ls (.int (r_bits p1 (12 : Int32) (21 : Int32)) :: [.int 4096, .int ((x29 * (4096 : Int32)) + x30)])) rfl ?_
              refine lv_topi (fun x32 ex32 => ?_)
              refine lv_imul hx hb dX1_translated_214 ?_
              refine lv_goto (tgt := 219) hx hb dX1_translated_215 (by decide) ?_
              refine lv_iadd hx hb dX1_translated_219 ?_
              refine lv_topi (fun x33 ex33 => ?_)
              refine lv_istore_n (lv' := [(3, .int x33), (6, .int 1), (5, .int x11), (4, .int x8), (0, .ref h0), (1, .int p1), (2, .int p2)]) hx hb dX1_translated_220 rfl hl (by decide) rfl (fun ls hl => ?_)
              refine lv_iload_n hx hb dX1_translated_221 rfl (lv_at hl 0 rfl) ?_
              refine W.callR (W.runS (As := [.int x33]) (rest := []) ⟨hx, hb, hml, hown, hts⟩ (cr_isWord l x33) (cwS 1 hts (gS mL_1_60 mS_1_isWord mN_1 mB_1_isWord) rfl rfl rfl (by decide +kernel) ⟨Nat.le_of_ble_eq_true rfl, Nat.le_of_ble_eq_true rfl⟩) ⟨jblind, fun _ _ _ => ⟨rfl, trivial⟩⟩ rfl rfl hl.1 rfl (lv_room (Nat.le_of_ble_eq_true rfl)) dX1_translated_222 ⟨Nat.zero_le _, Nat.zero_le _⟩) ?_
              refine W.eq (g2 := F0 m 225 ls (.int (r_isWord x33) :: [])) rfl ?_
              refine lv_topi (fun x34 ex34 => ?_)
              refine lv_if_ne (tgt := 236) hx hb dX1_translated_225 (by decide) (fun c35 => ?_) (fun c35 => ?_)
              · refine lv_iload_n hx hb dX1_translated_236 rfl (lv_at hl 0 rfl) ?_
                exact rIret (v := x33) (u := (st.1, st.2.1, st.2.2.1, st.2.2.2.1, st.2.2.2.2.1, st.2.2.2.2.2.1, st.2.2.2.2.2.2.1, st.2.2.2.2.2.2.2.1, st.2.2.2.2.2.2.2.2.1, st.2.2.2.2.2.2.2.2.2.1, st.2.2.2.2.2.2.2.2.2.2.1, st.2.2.2.2.2.2.2.2.2.2.2.1, st.2.2.2.2.2.2.2.2.2.2.2.2.1, st.2.2.2.2.2.2.2.2.2.2.2.2.2.1, st.2.2.2.2.2.2.2.2.2.2.2.2.2.2.1, st.2.2.2.2.2.2.2.2.2.2.2.2.2.2.2.1, st.2.2.2.2.2.2.2.2.2.2.2.2.2.2.2.2.1, ((-1) : Int32))) hx hb hr hlocks (by subst ex34 ex33 ex32 ex30 ex29 ex27 ex25 ex12 ex11 ex9 ex8 ex7 ex6 ex1; exact (((if_neg c2).trans ((if_neg c10).trans ((if_neg c13).trans ((if_neg c26).trans ((if_neg c28).trans ((if_neg c35).trans rfl))))))).symm) hK hP hD hS dX1_translated_237
              · refine lv_aload_n hx hb dX1_translated_228 rfl (lv_at hl 4 rfl) ?_
                refine lv_iload_n hx hb dX1_translated_229 rfl (lv_at hl 6 rfl) ?_
                refine W.callR (W.runS (As := [.int p2]) (rest := [.ref h0]) ⟨hx, hb, hml, hown, hts⟩ (cr_accessCause l p2) (cwS 1 hts (gS mL_1_64 mS_1_accessCause mN_1 mB_1_accessCause) rfl rfl rfl (by decide +kernel) ⟨Nat.le_of_ble_eq_true rfl, Nat.le_of_ble_eq_true rfl⟩) ⟨jblind, fun _ _ _ => ⟨rfl, trivial⟩⟩ rfl rfl hl.1 rfl (lv_room (Nat.le_of_ble_eq_true rfl)) dX1_translated_230 ⟨Nat.zero_le _, Nat.zero_le _⟩) ?_
                refine W.eq (g2 := F0 m 233 ls (.int (r_accessCause p2) :: [.ref h0])) rfl ?_
                refine lv_topi (fun x36 ex36 => ?_)
                refine va_put (D := (dC, dI)) (ci := 1) (v := .int x36) (ty := .int) (C := "PagedHartModel") (T := TX1) (N := 18) hx hb hts mU1 tyX1 tyX1_ok nmX1 hown hK hP hD hS 0 rfl rfl 17 (by decide) (hts _ mF_1_54) (fun _ h9 => h9) rfl (by decide +kernel) rfl rfl (Nat.le_of_ble_eq_true rfl) dX1_translated_233 (fun H locs hP hD hS => ?_)
                have hP : va_P (dC, dI) vwCl (rW cI h0 qme0 qre1 (st.1, st.2.1, st.2.2.1, st.2.2.2.1, st.2.2.2.2.1, st.2.2.2.2.2.1, st.2.2.2.2.2.2.1, st.2.2.2.2.2.2.2.1, st.2.2.2.2.2.2.2.2.1, st.2.2.2.2.2.2.2.2.2.1, st.2.2.2.2.2.2.2.2.2.2.1, st.2.2.2.2.2.2.2.2.2.2.2.1, st.2.2.2.2.2.2.2.2.2.2.2.2.1, st.2.2.2.2.2.2.2.2.2.2.2.2.2.1, st.2.2.2.2.2.2.2.2.2.2.2.2.2.2.1, st.2.2.2.2.2.2.2.2.2.2.2.2.2.2.2.1, st.2.2.2.2.2.2.2.2.2.2.2.2.2.2.2.2.1, x36)) H := hP
                have hD : va_D (rA h0 qme0 qre1 s.heap.size) (rW cI h0 qme0 qre1 (st.1, st.2.1, st.2.2.1, st.2.2.2.1, st.2.2.2.2.1, st.2.2.2.2.2.1, st.2.2.2.2.2.2.1, st.2.2.2.2.2.2.2.1, st.2.2.2.2.2.2.2.2.1, st.2.2.2.2.2.2.2.2.2.1, st.2.2.2.2.2.2.2.2.2.2.1, st.2.2.2.2.2.2.2.2.2.2.2.1, st.2.2.2.2.2.2.2.2.2.2.2.2.1, st.2.2.2.2.2.2.2.2.2.2.2.2.2.1, st.2.2.2.2.2.2.2.2.2.2.2.2.2.2.1, st.2.2.2.2.2.2.2.2.2.2.2.2.2.2.2.1, st.2.2.2.2.2.2.2.2.2.2.2.2.2.2.2.2.1, x36)) := hD
                refine lv_iload_n hx hb dX1_translated_236 rfl (lv_at hl 0 rfl) ?_
                exact rIret (v := x33) (u := (st.1, st.2.1, st.2.2.1, st.2.2.2.1, st.2.2.2.2.1, st.2.2.2.2.2.1, st.2.2.2.2.2.2.1, st.2.2.2.2.2.2.2.1, st.2.2.2.2.2.2.2.2.1, st.2.2.2.2.2.2.2.2.2.1, st.2.2.2.2.2.2.2.2.2.2.1, st.2.2.2.2.2.2.2.2.2.2.2.1, st.2.2.2.2.2.2.2.2.2.2.2.2.1, st.2.2.2.2.2.2.2.2.2.2.2.2.2.1, st.2.2.2.2.2.2.2.2.2.2.2.2.2.2.1, st.2.2.2.2.2.2.2.2.2.2.2.2.2.2.2.1, st.2.2.2.2.2.2.2.2.2.2.2.2.2.2.2.2.1, x36)) hx hb hr hlocks (by subst ex36 ex34 ex33 ex32 ex30 ex29 ex27 ex25 ex12 ex11 ex9 ex8 ex7 ex6 ex1; exact (((if_neg c2).trans ((if_neg c10).trans ((if_neg c13).trans ((if_neg c26).trans ((if_neg c28).trans ((if_pos c35).trans rfl))))))).symm) hK hP hD hS dX1_translated_237
          · refine lv_aload_n hx hb dX1_translated_167 rfl (lv_at hl 4 rfl) ?_
            refine lv_iload_n hx hb dX1_translated_168 rfl (lv_at hl 6 rfl) ?_
            refine W.callR (W.runS (As := [.int p2]) (rest := [.ref h0]) ⟨hx, hb, hml, hown, hts⟩ (cr_pageCause l p2) (cwS 1 hts (gS mL_1_72 mS_1_pageCause mN_1 mB_1_pageCause) rfl rfl rfl (by decide +kernel) ⟨Nat.le_of_ble_eq_true rfl, Nat.le_of_ble_eq_true rfl⟩) ⟨jblind, fun _ _ _ => ⟨rfl, trivial⟩⟩ rfl rfl hl.1 rfl (lv_room (Nat.le_of_ble_eq_true rfl)) dX1_translated_169 ⟨Nat.zero_le _, Nat.zero_le _⟩) ?_
            refine W.eq (g2 := F0 m 172 ls (.int (r_pageCause p2) :: [.ref h0])) rfl ?_
            refine lv_topi (fun x37 ex37 => ?_)
            refine va_put (D := (dC, dI)) (ci := 1) (v := .int x37) (ty := .int) (C := "PagedHartModel") (T := TX1) (N := 18) hx hb hts mU1 tyX1 tyX1_ok nmX1 hown hK hP hD hS 0 rfl rfl 17 (by decide) (hts _ mF_1_54) (fun _ h9 => h9) rfl (by decide +kernel) rfl rfl (Nat.le_of_ble_eq_true rfl) dX1_translated_172 (fun H locs hP hD hS => ?_)
            have hP : va_P (dC, dI) vwCl (rW cI h0 qme0 qre1 (st.1, st.2.1, st.2.2.1, st.2.2.2.1, st.2.2.2.2.1, st.2.2.2.2.2.1, st.2.2.2.2.2.2.1, st.2.2.2.2.2.2.2.1, st.2.2.2.2.2.2.2.2.1, st.2.2.2.2.2.2.2.2.2.1, st.2.2.2.2.2.2.2.2.2.2.1, st.2.2.2.2.2.2.2.2.2.2.2.1, st.2.2.2.2.2.2.2.2.2.2.2.2.1, st.2.2.2.2.2.2.2.2.2.2.2.2.2.1, st.2.2.2.2.2.2.2.2.2.2.2.2.2.2.1, st.2.2.2.2.2.2.2.2.2.2.2.2.2.2.2.1, st.2.2.2.2.2.2.2.2.2.2.2.2.2.2.2.2.1, x37)) H := hP
            have hD : va_D (rA h0 qme0 qre1 s.heap.size) (rW cI h0 qme0 qre1 (st.1, st.2.1, st.2.2.1, st.2.2.2.1, st.2.2.2.2.1, st.2.2.2.2.2.1, st.2.2.2.2.2.2.1, st.2.2.2.2.2.2.2.1, st.2.2.2.2.2.2.2.2.1, st.2.2.2.2.2.2.2.2.2.1, st.2.2.2.2.2.2.2.2.2.2.1, st.2.2.2.2.2.2.2.2.2.2.2.1, st.2.2.2.2.2.2.2.2.2.2.2.2.1, st.2.2.2.2.2.2.2.2.2.2.2.2.2.1, st.2.2.2.2.2.2.2.2.2.2.2.2.2.2.1, st.2.2.2.2.2.2.2.2.2.2.2.2.2.2.2.1, st.2.2.2.2.2.2.2.2.2.2.2.2.2.2.2.2.1, x37)) := hD
            refine lv_iconst (v := 0) hx hb dX1_translated_175 (by decide) ?_
            exact rIret (v := 0) (u := (st.1, st.2.1, st.2.2.1, st.2.2.2.1, st.2.2.2.2.1, st.2.2.2.2.2.1, st.2.2.2.2.2.2.1, st.2.2.2.2.2.2.2.1, st.2.2.2.2.2.2.2.2.1, st.2.2.2.2.2.2.2.2.2.1, st.2.2.2.2.2.2.2.2.2.2.1, st.2.2.2.2.2.2.2.2.2.2.2.1, st.2.2.2.2.2.2.2.2.2.2.2.2.1, st.2.2.2.2.2.2.2.2.2.2.2.2.2.1, st.2.2.2.2.2.2.2.2.2.2.2.2.2.2.1, st.2.2.2.2.2.2.2.2.2.2.2.2.2.2.2.1, st.2.2.2.2.2.2.2.2.2.2.2.2.2.2.2.2.1, x37)) hx hb hr hlocks (by subst ex37 ex27 ex25 ex12 ex11 ex9 ex8 ex7 ex6 ex1; exact (((if_neg c2).trans ((if_neg c10).trans ((if_neg c13).trans ((if_neg c26).trans ((if_pos c28).trans rfl)))))).symm) hK hP hD hS dX1_translated_176
        · refine lv_iconst (v := 0) hx hb dX1_translated_97 (by decide) ?_
          refine lv_istore (lv' := [(6, .int 0), (5, .int x11), (4, .int x8), (3, .int p1), (0, .ref h0), (1, .int p1), (2, .int p2)]) hx hb dX1_translated_98 hl (by decide) rfl (fun ls hl => ?_)
          refine lv_iload hx hb dX1_translated_100 (lv_at hl 1 rfl) ?_
          refine lv_bipush (v := 10) hx hb dX1_translated_102 (by decide) ?_
          refine lv_bipush (v := 31) hx hb dX1_translated_104 (by decide) ?_
          refine W.callR (W.runS (As := [.int x11, .int 10, .int 31]) (rest := []) ⟨hx, hb, hml, hown, hts⟩ (cr_bits l x11 (10 : Int32) (31 : Int32)) (cwS 3 hts (gS mL_1_46 mS_1_bits mN_1 mB_1_bits) rfl rfl rfl (by decide +kernel) ⟨Nat.le_of_ble_eq_true rfl, Nat.le_of_ble_eq_true rfl⟩) ⟨jblind, fun _ _ _ => ⟨rfl, trivial⟩⟩ rfl rfl hl.1 rfl (lv_room (Nat.le_of_ble_eq_true rfl)) dX1_translated_106 ⟨Nat.zero_le _, Nat.zero_le _⟩) ?_
          refine W.eq (g2 := F0 m 109 ls (.int (r_bits x11 (10 : Int32) (31 : Int32)) :: [])) rfl ?_
          refine lv_topi (fun x38 ex38 => ?_)
          refine lv_sipush (v := 4096) hx hb dX1_translated_109 (by decide) ?_
          refine lv_imul hx hb dX1_translated_112 ?_
          refine lv_iconst (v := 4) hx hb dX1_translated_113 (by decide) ?_
          refine lv_iload_n hx hb dX1_translated_114 rfl (lv_at hl 5 rfl) ?_
          refine lv_bipush (v := 12) hx hb dX1_translated_115 (by decide) ?_
          refine lv_bipush (v := 21) hx hb dX1_translated_117 (by decide) ?_
          refine W.callR (W.runS (As := [.int p1, .int 12, .int 21]) (rest := [.int 4, .int (x38 * (4096 : Int32))]) ⟨hx, hb, hml, hown, hts⟩ (cr_bits l p1 (12 : Int32) (21 : Int32)) (cwS 3 hts (gS mL_1_46 mS_1_bits mN_1 mB_1_bits) rfl rfl rfl (by decide +kernel) ⟨Nat.le_of_ble_eq_true rfl, Nat.le_of_ble_eq_true rfl⟩) ⟨jblind, fun _ _ _ => ⟨rfl, trivial⟩⟩ rfl rfl hl.1 rfl (lv_room (Nat.le_of_ble_eq_true rfl)) dX1_translated_119 ⟨Nat.zero_le _, Nat.zero_le _⟩) ?_
          refine W.eq (g2 := F0 m 122 ls (.int (r_bits p1 (12 : Int32) (21 : Int32)) :: [.int 4, .int (x38 * (4096 : Int32))])) rfl ?_
          refine lv_topi (fun x39 ex39 => ?_)
          refine lv_imul hx hb dX1_translated_122 ?_
          refine lv_iadd hx hb dX1_translated_123 ?_
          refine lv_topi (fun x40 ex40 => ?_)
          refine lv_istore (lv' := [(4, .int x40), (6, .int 0), (5, .int x11), (3, .int p1), (0, .ref h0), (1, .int p1), (2, .int p2)]) hx hb dX1_translated_124 hl (by decide) rfl (fun ls hl => ?_)
          refine lv_iload hx hb dX1_translated_126 (lv_at hl 0 rfl) ?_
          refine W.callR (W.runS (As := [.int x40]) (rest := []) ⟨hx, hb, hml, hown, hts⟩ (cr_isWord l x40) (cwS 1 hts (gS mL_1_60 mS_1_isWord mN_1 mB_1_isWord) rfl rfl rfl (by decide +kernel) ⟨Nat.le_of_ble_eq_true rfl, Nat.le_of_ble_eq_true rfl⟩) ⟨jblind, fun _ _ _ => ⟨rfl, trivial⟩⟩ rfl rfl hl.1 rfl (lv_room (Nat.le_of_ble_eq_true rfl)) dX1_translated_128 ⟨Nat.zero_le _, Nat.zero_le _⟩) ?_
          refine W.eq (g2 := F0 m 131 ls (.int (r_isWord x40) :: [])) rfl ?_
          refine lv_topi (fun x41 ex41 => ?_)
          refine lv_if_ne (tgt := 144) hx hb dX1_translated_131 (by decide) (fun c42 => ?_) (fun c42 => ?_)
          · refine lv_aload_n hx hb dX1_translated_144 rfl (lv_at hl 4 rfl) ?_
            refine va_get (D := (dC, dI)) (ci := 1) (v := .ref qme0) (C := "PagedHartModel") (T := TX1) (N := 18) hx hb hts mU1 hown hK hP 0 rfl rfl 1 (by decide) (hts _ mF_1_8) (fun _ h9 => h9) rfl dX1_translated_145 ?_
            refine lv_iload hx hb dX1_translated_148 (lv_at hl 0 rfl) ?_
            refine lv_iconst (v := 4) hx hb dX1_translated_150 (by decide) ?_
            refine lv_idiv hx hb dX1_translated_151 (by decide) ?_
            refine va_iald (D := (dC, dI)) hx hb hK hP 1 0 rfl rfl (r_in1 (by rw [← ex41]; exact c42)) dX1_translated_152 ?_
            refine lv_topi (fun x43 ex43 => ?_)
            refine lv_istore (lv' := [(5, .int x43), (4, .int x40), (6, .int 0), (3, .int p1), (0, .ref h0), (1, .int p1), (2, .int p2)]) hx hb dX1_translated_153 hl (by decide) rfl (fun ls hl => ?_)
            refine lv_aload_n hx hb dX1_translated_155 rfl (lv_at hl 4 rfl) ?_
            refine lv_iload hx hb dX1_translated_156 (lv_at hl 0 rfl) ?_
            refine lv_iload_n hx hb dX1_translated_158 rfl (lv_at hl 6 rfl) ?_
            refine lv_iload hx hb dX1_translated_159 (lv_at hl 2 rfl) ?_
            refine rR (As := [.int x43, .int p2, .int 0]) (rest := []) (f := r_lets (st.1, st.2.1, st.2.2.1, st.2.2.2.1, st.2.2.2.2.1, st.2.2.2.2.2.1, st.2.2.2.2.2.2.1, st.2.2.2.2.2.2.2.1, st.2.2.2.2.2.2.2.2.1, st.2.2.2.2.2.2.2.2.2.1, st.2.2.2.2.2.2.2.2.2.2.1, st.2.2.2.2.2.2.2.2.2.2.2.1, st.2.2.2.2.2.2.2.2.2.2.2.2.1, st.2.2.2.2.2.2.2.2.2.2.2.2.2.1, st.2.2.2.2.2.2.2.2.2.2.2.2.2.2.1, st.2.2.2.2.2.2.2.2.2.2.2.2.2.2.2.1, st.2.2.2.2.2.2.2.2.2.2.2.2.2.2.2.2.1, ((-1) : Int32)) x43 p2 (0 : Int32)) ⟨hx, hb, hml, hown, hts⟩ (cr_lets l dC dI cI h0 qme0 qre1 tN tB H.size (st.1, st.2.1, st.2.2.1, st.2.2.2.1, st.2.2.2.2.1, st.2.2.2.2.2.1, st.2.2.2.2.2.2.1, st.2.2.2.2.2.2.2.1, st.2.2.2.2.2.2.2.2.1, st.2.2.2.2.2.2.2.2.2.1, st.2.2.2.2.2.2.2.2.2.2.1, st.2.2.2.2.2.2.2.2.2.2.2.1, st.2.2.2.2.2.2.2.2.2.2.2.2.1, st.2.2.2.2.2.2.2.2.2.2.2.2.2.1, st.2.2.2.2.2.2.2.2.2.2.2.2.2.2.1, st.2.2.2.2.2.2.2.2.2.2.2.2.2.2.2.1, st.2.2.2.2.2.2.2.2.2.2.2.2.2.2.2.2.1, ((-1) : Int32)) x43 p2 (0 : Int32)) (cwV 3 hts (gV mL_1_68 mI_1_lets mX_1_lets mN_1 mB_1_lets) rfl rfl rfl (by decide +kernel) ⟨Nat.le_of_ble_eq_true rfl, Nat.le_of_ble_eq_true rfl⟩) hK hP hD hS hZ rfl hl.1 rfl (Nat.le_of_ble_eq_true rfl) dX1_translated_161 ⟨Nat.zero_le _, Nat.zero_le _⟩ ?_
            refine lv_topi (fun x44 ex44 => ?_)
            refine lv_if_ne (tgt := 177) hx hb dX1_translated_164 (by decide) (fun c45 => ?_) (fun c45 => ?_)
            · refine lv_iload hx hb dX1_translated_177 (lv_at hl 0 rfl) ?_
              refine lv_bipush (v := 10) hx hb dX1_translated_179 (by decide) ?_
              refine lv_bipush (v := 31) hx hb dX1_translated_181 (by decide) ?_
              refine W.callR (W.runS (As := [.int x43, .int 10, .int 31]) (rest := []) ⟨hx, hb, hml, hown, hts⟩ (cr_bits l x43 (10 : Int32) (31 : Int32)) (cwS 3 hts (gS mL_1_46 mS_1_bits mN_1 mB_1_bits) rfl rfl rfl (by decide +kernel) ⟨Nat.le_of_ble_eq_true rfl, Nat.le_of_ble_eq_true rfl⟩) ⟨jblind, fun _ _ _ => ⟨rfl, trivial⟩⟩ rfl rfl hl.1 rfl (lv_room (Nat.le_of_ble_eq_true rfl)) dX1_translated_183 ⟨Nat.zero_le _, Nat.zero_le _⟩) ?_
              refine W.eq (g2 := F0 m 186 ls (.int (r_bits x43 (10 : Int32) (31 : Int32)) :: [])) rfl ?_
              refine lv_topi (fun x46 ex46 => ?_)
              refine lv_sipush (v := 4096) hx hb dX1_translated_186 (by decide) ?_
              refine lv_imul hx hb dX1_translated_189 ?_
              refine lv_iload_n hx hb dX1_translated_190 rfl (lv_at hl 5 rfl) ?_
              refine lv_iconst (v := 0) hx hb dX1_translated_191 (by decide) ?_
              refine lv_bipush (v := 11) hx hb dX1_translated_192 (by decide) ?_
              refine W.callR (W.runS (As := [.int p1, .int 0, .int 11]) (rest := [.int (x46 * (4096 : Int32))]) ⟨hx, hb, hml, hown, hts⟩ (cr_bits l p1 (0 : Int32) (11 : Int32)) (cwS 3 hts (gS mL_1_46 mS_1_bits mN_1 mB_1_bits) rfl rfl rfl (by decide +kernel) ⟨Nat.le_of_ble_eq_true rfl, Nat.le_of_ble_eq_true rfl⟩) ⟨jblind, fun _ _ _ => ⟨rfl, trivial⟩⟩ rfl rfl hl.1 rfl (lv_room (Nat.le_of_ble_eq_true rfl)) dX1_translated_194 ⟨Nat.zero_le _, Nat.zero_le _⟩) ?_
              refine W.eq (g2 := F0 m 197 ls (.int (r_bits p1 (0 : Int32) (11 : Int32)) :: [.int (x46 * (4096 : Int32))])) rfl ?_
              refine lv_topi (fun x47 ex47 => ?_)
              refine lv_iadd hx hb dX1_translated_197 ?_
              refine lv_iload hx hb dX1_translated_198 (lv_at hl 2 rfl) ?_
              refine lv_if_eq (tgt := 218) hx hb dX1_translated_200 (by decide) (fun c48 => ?_) (fun c48 => ?_)
              · refine lv_iconst (v := 0) hx hb dX1_translated_218 (by decide) ?_
                refine lv_iadd hx hb dX1_translated_219 ?_
                refine lv_topi (fun x49 ex49 => ?_)
                refine lv_istore_n (lv' := [(3, .int x49), (5, .int x43), (4, .int x40), (6, .int 0), (0, .ref h0), (1, .int p1), (2, .int p2)]) hx hb dX1_translated_220 rfl hl (by decide) rfl (fun ls hl => ?_)
                refine lv_iload_n hx hb dX1_translated_221 rfl (lv_at hl 0 rfl) ?_
                refine W.callR (W.runS (As := [.int x49]) (rest := []) ⟨hx, hb, hml, hown, hts⟩ (cr_isWord l x49) (cwS 1 hts (gS mL_1_60 mS_1_isWord mN_1 mB_1_isWord) rfl rfl rfl (by decide +kernel) ⟨Nat.le_of_ble_eq_true rfl, Nat.le_of_ble_eq_true rfl⟩) ⟨jblind, fun _ _ _ => ⟨rfl, trivial⟩⟩ rfl rfl hl.1 rfl (lv_room (Nat.le_of_ble_eq_true rfl)) dX1_translated_222 ⟨Nat.zero_le _, Nat.zero_le _⟩) ?_
                refine W.eq (g2 := F0 m 225 ls (.int (r_isWord x49) :: [])) rfl ?_
                refine lv_topi (fun x50 ex50 => ?_)
                refine lv_if_ne (tgt := 236) hx hb dX1_translated_225 (by decide) (fun c51 => ?_) (fun c51 => ?_)
                · refine lv_iload_n hx hb dX1_translated_236 rfl (lv_at hl 0 rfl) ?_
                  exact rIret (v := x49) (u := (st.1, st.2.1, st.2.2.1, st.2.2.2.1, st.2.2.2.2.1, st.2.2.2.2.2.1, st.2.2.2.2.2.2.1, st.2.2.2.2.2.2.2.1, st.2.2.2.2.2.2.2.2.1, st.2.2.2.2.2.2.2.2.2.1, st.2.2.2.2.2.2.2.2.2.2.1, st.2.2.2.2.2.2.2.2.2.2.2.1, st.2.2.2.2.2.2.2.2.2.2.2.2.1, st.2.2.2.2.2.2.2.2.2.2.2.2.2.1, st.2.2.2.2.2.2.2.2.2.2.2.2.2.2.1, st.2.2.2.2.2.2.2.2.2.2.2.2.2.2.2.1, st.2.2.2.2.2.2.2.2.2.2.2.2.2.2.2.2.1, ((-1) : Int32))) hx hb hr hlocks (by subst ex50 ex49 ex47 ex46 ex44 ex43 ex41 ex40 ex39 ex38 ex25 ex12 ex11 ex9 ex8 ex7 ex6 ex1; exact (((if_neg c2).trans ((if_neg c10).trans ((if_neg c13).trans ((if_pos c26).trans ((if_neg c42).trans ((if_neg c45).trans ((if_neg c51).trans rfl)))))))).symm) hK hP hD hS dX1_translated_237
                · refine lv_aload_n hx hb dX1_translated_228 rfl (lv_at hl 4 rfl) ?_
                  refine lv_iload_n hx hb dX1_translated_229 rfl (lv_at hl 6 rfl) ?_
                  refine W.callR (W.runS (As := [.int p2]) (rest := [.ref h0]) ⟨hx, hb, hml, hown, hts⟩ (cr_accessCause l p2) (cwS 1 hts (gS mL_1_64 mS_1_accessCause mN_1 mB_1_accessCause) rfl rfl rfl (by decide +kernel) ⟨Nat.le_of_ble_eq_true rfl, Nat.le_of_ble_eq_true rfl⟩) ⟨jblind, fun _ _ _ => ⟨rfl, trivial⟩⟩ rfl rfl hl.1 rfl (lv_room (Nat.le_of_ble_eq_true rfl)) dX1_translated_230 ⟨Nat.zero_le _, Nat.zero_le _⟩) ?_
                  refine W.eq (g2 := F0 m 233 ls (.int (r_accessCause p2) :: [.ref h0])) rfl ?_
                  refine lv_topi (fun x52 ex52 => ?_)
                  refine va_put (D := (dC, dI)) (ci := 1) (v := .int x52) (ty := .int) (C := "PagedHartModel") (T := TX1) (N := 18) hx hb hts mU1 tyX1 tyX1_ok nmX1 hown hK hP hD hS 0 rfl rfl 17 (by decide) (hts _ mF_1_54) (fun _ h9 => h9) rfl (by decide +kernel) rfl rfl (Nat.le_of_ble_eq_true rfl) dX1_translated_233 (fun H locs hP hD hS => ?_)
                  have hP : va_P (dC, dI) vwCl (rW cI h0 qme0 qre1 (st.1, st.2.1, st.2.2.1, st.2.2.2.1, st.2.2.2.2.1, st.2.2.2.2.2.1, st.2.2.2.2.2.2.1, st.2.2.2.2.2.2.2.1, st.2.2.2.2.2.2.2.2.1, st.2.2.2.2.2.2.2.2.2.1, st.2.2.2.2.2.2.2.2.2.2.1, st.2.2.2.2.2.2.2.2.2.2.2.1, st.2.2.2.2.2.2.2.2.2.2.2.2.1, st.2.2.2.2.2.2.2.2.2.2.2.2.2.1, st.2.2.2.2.2.2.2.2.2.2.2.2.2.2.1, st.2.2.2.2.2.2.2.2.2.2.2.2.2.2.2.1, st.2.2.2.2.2.2.2.2.2.2.2.2.2.2.2.2.1, x52)) H := hP
                  have hD : va_D (rA h0 qme0 qre1 s.heap.size) (rW cI h0 qme0 qre1 (st.1, st.2.1, st.2.2.1, st.2.2.2.1, st.2.2.2.2.1, st.2.2.2.2.2.1, st.2.2.2.2.2.2.1, st.2.2.2.2.2.2.2.1, st.2.2.2.2.2.2.2.2.1, st.2.2.2.2.2.2.2.2.2.1, st.2.2.2.2.2.2.2.2.2.2.1, st.2.2.2.2.2.2.2.2.2.2.2.1, st.2.2.2.2.2.2.2.2.2.2.2.2.1, st.2.2.2.2.2.2.2.2.2.2.2.2.2.1, st.2.2.2.2.2.2.2.2.2.2.2.2.2.2.1, st.2.2.2.2.2.2.2.2.2.2.2.2.2.2.2.1, st.2.2.2.2.2.2.2.2.2.2.2.2.2.2.2.2.1, x52)) := hD
                  refine lv_iload_n hx hb dX1_translated_236 rfl (lv_at hl 0 rfl) ?_
                  exact rIret (v := x49) (u := (st.1, st.2.1, st.2.2.1, st.2.2.2.1, st.2.2.2.2.1, st.2.2.2.2.2.1, st.2.2.2.2.2.2.1, st.2.2.2.2.2.2.2.1, st.2.2.2.2.2.2.2.2.1, st.2.2.2.2.2.2.2.2.2.1, st.2.2.2.2.2.2.2.2.2.2.1, st.2.2.2.2.2.2.2.2.2.2.2.1, st.2.2.2.2.2.2.2.2.2.2.2.2.1, st.2.2.2.2.2.2.2.2.2.2.2.2.2.1, st.2.2.2.2.2.2.2.2.2.2.2.2.2.2.1, st.2.2.2.2.2.2.2.2.2.2.2.2.2.2.2.1, st.2.2.2.2.2.2.2.2.2.2.2.2.2.2.2.2.1, x52)) hx hb hr hlocks (by subst ex52 ex50 ex49 ex47 ex46 ex44 ex43 ex41 ex40 ex39 ex38 ex25 ex12 ex11 ex9 ex8 ex7 ex6 ex1; exact (((if_neg c2).trans ((if_neg c10).trans ((if_neg c13).trans ((if_pos c26).trans ((if_neg c42).trans ((if_neg c45).trans ((if_pos c51).trans rfl)))))))).symm) hK hP hD hS dX1_translated_237
              · exact (c48 (by decide)).elim
            · refine lv_aload_n hx hb dX1_translated_167 rfl (lv_at hl 4 rfl) ?_
              refine lv_iload_n hx hb dX1_translated_168 rfl (lv_at hl 6 rfl) ?_
              refine W.callR (W.runS (As := [.int p2]) (rest := [.ref h0]) ⟨hx, hb, hml, hown, hts⟩ (cr_pageCause l p2) (cwS 1 hts (gS mL_1_72 mS_1_pageCause mN_1 mB_1_pageCause) rfl rfl rfl (by decide +kernel) ⟨Nat.le_of_ble_eq_true rfl, Nat.le_of_ble_eq_true rfl⟩) ⟨jblind, fun _ _ _ => ⟨rfl, trivial⟩⟩ rfl rfl hl.1 rfl (lv_room (Nat.le_of_ble_eq_true rfl)) dX1_translated_169 ⟨Nat.zero_le _, Nat.zero_le _⟩) ?_
              refine W.eq (g2 := F0 m 172 ls (.int (r_pageCause p2) :: [.ref h0])) rfl ?_
              refine lv_topi (fun x53 ex53 => ?_)
              refine va_put (D := (dC, dI)) (ci := 1) (v := .int x53) (ty := .int) (C := "PagedHartModel") (T := TX1) (N := 18) hx hb hts mU1 tyX1 tyX1_ok nmX1 hown hK hP hD hS 0 rfl rfl 17 (by decide) (hts _ mF_1_54) (fun _ h9 => h9) rfl (by decide +kernel) rfl rfl (Nat.le_of_ble_eq_true rfl) dX1_translated_172 (fun H locs hP hD hS => ?_)
              have hP : va_P (dC, dI) vwCl (rW cI h0 qme0 qre1 (st.1, st.2.1, st.2.2.1, st.2.2.2.1, st.2.2.2.2.1, st.2.2.2.2.2.1, st.2.2.2.2.2.2.1, st.2.2.2.2.2.2.2.1, st.2.2.2.2.2.2.2.2.1, st.2.2.2.2.2.2.2.2.2.1, st.2.2.2.2.2.2.2.2.2.2.1, st.2.2.2.2.2.2.2.2.2.2.2.1, st.2.2.2.2.2.2.2.2.2.2.2.2.1, st.2.2.2.2.2.2.2.2.2.2.2.2.2.1, st.2.2.2.2.2.2.2.2.2.2.2.2.2.2.1, st.2.2.2.2.2.2.2.2.2.2.2.2.2.2.2.1, st.2.2.2.2.2.2.2.2.2.2.2.2.2.2.2.2.1, x53)) H := hP
              have hD : va_D (rA h0 qme0 qre1 s.heap.size) (rW cI h0 qme0 qre1 (st.1, st.2.1, st.2.2.1, st.2.2.2.1, st.2.2.2.2.1, st.2.2.2.2.2.1, st.2.2.2.2.2.2.1, st.2.2.2.2.2.2.2.1, st.2.2.2.2.2.2.2.2.1, st.2.2.2.2.2.2.2.2.2.1, st.2.2.2.2.2.2.2.2.2.2.1, st.2.2.2.2.2.2.2.2.2.2.2.1, st.2.2.2.2.2.2.2.2.2.2.2.2.1, st.2.2.2.2.2.2.2.2.2.2.2.2.2.1, st.2.2.2.2.2.2.2.2.2.2.2.2.2.2.1, st.2.2.2.2.2.2.2.2.2.2.2.2.2.2.2.1, st.2.2.2.2.2.2.2.2.2.2.2.2.2.2.2.2.1, x53)) := hD
              refine lv_iconst (v := 0) hx hb dX1_translated_175 (by decide) ?_
              exact rIret (v := 0) (u := (st.1, st.2.1, st.2.2.1, st.2.2.2.1, st.2.2.2.2.1, st.2.2.2.2.2.1, st.2.2.2.2.2.2.1, st.2.2.2.2.2.2.2.1, st.2.2.2.2.2.2.2.2.1, st.2.2.2.2.2.2.2.2.2.1, st.2.2.2.2.2.2.2.2.2.2.1, st.2.2.2.2.2.2.2.2.2.2.2.1, st.2.2.2.2.2.2.2.2.2.2.2.2.1, st.2.2.2.2.2.2.2.2.2.2.2.2.2.1, st.2.2.2.2.2.2.2.2.2.2.2.2.2.2.1, st.2.2.2.2.2.2.2.2.2.2.2.2.2.2.2.1, st.2.2.2.2.2.2.2.2.2.2.2.2.2.2.2.2.1, x53)) hx hb hr hlocks (by subst ex53 ex44 ex43 ex41 ex40 ex39 ex38 ex25 ex12 ex11 ex9 ex8 ex7 ex6 ex1; exact (((if_neg c2).trans ((if_neg c10).trans ((if_neg c13).trans ((if_pos c26).trans ((if_neg c42).trans ((if_pos c45).trans rfl))))))).symm) hK hP hD hS dX1_translated_176
          · refine lv_aload_n hx hb dX1_translated_134 rfl (lv_at hl 4 rfl) ?_
            refine lv_iload_n hx hb dX1_translated_135 rfl (lv_at hl 6 rfl) ?_
            refine W.callR (W.runS (As := [.int p2]) (rest := [.ref h0]) ⟨hx, hb, hml, hown, hts⟩ (cr_accessCause l p2) (cwS 1 hts (gS mL_1_64 mS_1_accessCause mN_1 mB_1_accessCause) rfl rfl rfl (by decide +kernel) ⟨Nat.le_of_ble_eq_true rfl, Nat.le_of_ble_eq_true rfl⟩) ⟨jblind, fun _ _ _ => ⟨rfl, trivial⟩⟩ rfl rfl hl.1 rfl (lv_room (Nat.le_of_ble_eq_true rfl)) dX1_translated_136 ⟨Nat.zero_le _, Nat.zero_le _⟩) ?_
            refine W.eq (g2 := F0 m 139 ls (.int (r_accessCause p2) :: [.ref h0])) rfl ?_
            refine lv_topi (fun x54 ex54 => ?_)
            refine va_put (D := (dC, dI)) (ci := 1) (v := .int x54) (ty := .int) (C := "PagedHartModel") (T := TX1) (N := 18) hx hb hts mU1 tyX1 tyX1_ok nmX1 hown hK hP hD hS 0 rfl rfl 17 (by decide) (hts _ mF_1_54) (fun _ h9 => h9) rfl (by decide +kernel) rfl rfl (Nat.le_of_ble_eq_true rfl) dX1_translated_139 (fun H locs hP hD hS => ?_)
            have hP : va_P (dC, dI) vwCl (rW cI h0 qme0 qre1 (st.1, st.2.1, st.2.2.1, st.2.2.2.1, st.2.2.2.2.1, st.2.2.2.2.2.1, st.2.2.2.2.2.2.1, st.2.2.2.2.2.2.2.1, st.2.2.2.2.2.2.2.2.1, st.2.2.2.2.2.2.2.2.2.1, st.2.2.2.2.2.2.2.2.2.2.1, st.2.2.2.2.2.2.2.2.2.2.2.1, st.2.2.2.2.2.2.2.2.2.2.2.2.1, st.2.2.2.2.2.2.2.2.2.2.2.2.2.1, st.2.2.2.2.2.2.2.2.2.2.2.2.2.2.1, st.2.2.2.2.2.2.2.2.2.2.2.2.2.2.2.1, st.2.2.2.2.2.2.2.2.2.2.2.2.2.2.2.2.1, x54)) H := hP
            have hD : va_D (rA h0 qme0 qre1 s.heap.size) (rW cI h0 qme0 qre1 (st.1, st.2.1, st.2.2.1, st.2.2.2.1, st.2.2.2.2.1, st.2.2.2.2.2.1, st.2.2.2.2.2.2.1, st.2.2.2.2.2.2.2.1, st.2.2.2.2.2.2.2.2.1, st.2.2.2.2.2.2.2.2.2.1, st.2.2.2.2.2.2.2.2.2.2.1, st.2.2.2.2.2.2.2.2.2.2.2.1, st.2.2.2.2.2.2.2.2.2.2.2.2.1, st.2.2.2.2.2.2.2.2.2.2.2.2.2.1, st.2.2.2.2.2.2.2.2.2.2.2.2.2.2.1, st.2.2.2.2.2.2.2.2.2.2.2.2.2.2.2.1, st.2.2.2.2.2.2.2.2.2.2.2.2.2.2.2.2.1, x54)) := hD
            refine lv_iconst (v := 0) hx hb dX1_translated_142 (by decide) ?_
            exact rIret (v := 0) (u := (st.1, st.2.1, st.2.2.1, st.2.2.2.1, st.2.2.2.2.1, st.2.2.2.2.2.1, st.2.2.2.2.2.2.1, st.2.2.2.2.2.2.2.1, st.2.2.2.2.2.2.2.2.1, st.2.2.2.2.2.2.2.2.2.1, st.2.2.2.2.2.2.2.2.2.2.1, st.2.2.2.2.2.2.2.2.2.2.2.1, st.2.2.2.2.2.2.2.2.2.2.2.2.1, st.2.2.2.2.2.2.2.2.2.2.2.2.2.1, st.2.2.2.2.2.2.2.2.2.2.2.2.2.2.1, st.2.2.2.2.2.2.2.2.2.2.2.2.2.2.2.1, st.2.2.2.2.2.2.2.2.2.2.2.2.2.2.2.2.1, x54)) hx hb hr hlocks (by subst ex54 ex41 ex40 ex39 ex38 ex25 ex12 ex11 ex9 ex8 ex7 ex6 ex1; exact (((if_neg c2).trans ((if_neg c10).trans ((if_neg c13).trans ((if_pos c26).trans ((if_pos c42).trans rfl)))))).symm) hK hP hD hS dX1_translated_143
    · refine lv_aload_n hx hb dX1_translated_54 rfl (lv_at hl 2 rfl) ?_
      refine lv_iload_n hx hb dX1_translated_55 rfl (lv_at hl 4 rfl) ?_
      refine W.callR (W.runS (As := [.int p2]) (rest := [.ref h0]) ⟨hx, hb, hml, hown, hts⟩ (cr_accessCause l p2) (cwS 1 hts (gS mL_1_64 mS_1_accessCause mN_1 mB_1_accessCause) rfl rfl rfl (by decide +kernel) ⟨Nat.le_of_ble_eq_true rfl, Nat.le_of_ble_eq_true rfl⟩) ⟨jblind, fun _ _ _ => ⟨rfl, trivial⟩⟩ rfl rfl hl.1 rfl (lv_room (Nat.le_of_ble_eq_true rfl)) dX1_translated_56 ⟨Nat.zero_le _, Nat.zero_le _⟩) ?_
      refine W.eq (g2 := F0 m 59 ls (.int (r_accessCause p2) :: [.ref h0])) rfl ?_
      refine lv_topi (fun x55 ex55 => ?_)
      refine va_put (D := (dC, dI)) (ci := 1) (v := .int x55) (ty := .int) (C := "PagedHartModel") (T := TX1) (N := 18) hx hb hts mU1 tyX1 tyX1_ok nmX1 hown hK hP hD hS 0 rfl rfl 17 (by decide) (hts _ mF_1_54) (fun _ h9 => h9) rfl (by decide +kernel) rfl rfl (Nat.le_of_ble_eq_true rfl) dX1_translated_59 (fun H locs hP hD hS => ?_)
      have hP : va_P (dC, dI) vwCl (rW cI h0 qme0 qre1 (st.1, st.2.1, st.2.2.1, st.2.2.2.1, st.2.2.2.2.1, st.2.2.2.2.2.1, st.2.2.2.2.2.2.1, st.2.2.2.2.2.2.2.1, st.2.2.2.2.2.2.2.2.1, st.2.2.2.2.2.2.2.2.2.1, st.2.2.2.2.2.2.2.2.2.2.1, st.2.2.2.2.2.2.2.2.2.2.2.1, st.2.2.2.2.2.2.2.2.2.2.2.2.1, st.2.2.2.2.2.2.2.2.2.2.2.2.2.1, st.2.2.2.2.2.2.2.2.2.2.2.2.2.2.1, st.2.2.2.2.2.2.2.2.2.2.2.2.2.2.2.1, st.2.2.2.2.2.2.2.2.2.2.2.2.2.2.2.2.1, x55)) H := hP
      have hD : va_D (rA h0 qme0 qre1 s.heap.size) (rW cI h0 qme0 qre1 (st.1, st.2.1, st.2.2.1, st.2.2.2.1, st.2.2.2.2.1, st.2.2.2.2.2.1, st.2.2.2.2.2.2.1, st.2.2.2.2.2.2.2.1, st.2.2.2.2.2.2.2.2.1, st.2.2.2.2.2.2.2.2.2.1, st.2.2.2.2.2.2.2.2.2.2.1, st.2.2.2.2.2.2.2.2.2.2.2.1, st.2.2.2.2.2.2.2.2.2.2.2.2.1, st.2.2.2.2.2.2.2.2.2.2.2.2.2.1, st.2.2.2.2.2.2.2.2.2.2.2.2.2.2.1, st.2.2.2.2.2.2.2.2.2.2.2.2.2.2.2.1, st.2.2.2.2.2.2.2.2.2.2.2.2.2.2.2.2.1, x55)) := hD
      refine lv_iconst (v := 0) hx hb dX1_translated_62 (by decide) ?_
      exact rIret (v := 0) (u := (st.1, st.2.1, st.2.2.1, st.2.2.2.1, st.2.2.2.2.1, st.2.2.2.2.2.1, st.2.2.2.2.2.2.1, st.2.2.2.2.2.2.2.1, st.2.2.2.2.2.2.2.2.1, st.2.2.2.2.2.2.2.2.2.1, st.2.2.2.2.2.2.2.2.2.2.1, st.2.2.2.2.2.2.2.2.2.2.2.1, st.2.2.2.2.2.2.2.2.2.2.2.2.1, st.2.2.2.2.2.2.2.2.2.2.2.2.2.1, st.2.2.2.2.2.2.2.2.2.2.2.2.2.2.1, st.2.2.2.2.2.2.2.2.2.2.2.2.2.2.2.1, st.2.2.2.2.2.2.2.2.2.2.2.2.2.2.2.2.1, x55)) hx hb hr hlocks (by subst ex55 ex9 ex8 ex7 ex6 ex1; exact (((if_neg c2).trans ((if_pos c10).trans rfl))).symm) hK hP hD hS dX1_translated_63
theorem r_trl (st : RS) (a b : Int32) (h : (r_translated st a b).2.2.2.2.2.2.2.2.2.2.2.2.2.2.2.2.2.2 < 0) : ¬ r_isWord (r_translated st a b).1 = 0 := by
  revert h
  unfold r_translated
  dsimp only
  (repeat' split) <;> intro h <;> first | with_reducible assumption | with_reducible exact absurd h (r_nA _) | with_reducible exact absurd h (r_nP _)

def r_trap (st : RS) (p1 : Int32) (p2 : Int32) : RS :=
  let x1 : Int32 := r_bits st.2.2.2.1 (0 : Int32) (1 : Int32)
  if st.2.2.2.2.1 = (1 : Int32) then
    (st.1, st.2.1, st.2.2.1, st.2.2.2.2.2.2.1, (1 : Int32), (st.2.2.2.2.2.1 &&& (262144 : Int32)) + (256 : Int32), st.2.2.2.2.2.2.1, st.2.2.2.2.2.2.2.1, st.2.2.2.1 - x1, p1, p2, st.2.2.2.2.2.2.2.2.2.2.2.1, st.2.2.2.2.2.2.2.2.2.2.2.2.1, st.2.2.2.2.2.2.2.2.2.2.2.2.2.1, st.2.2.2.2.2.2.2.2.2.2.2.2.2.2.1, (1 : Int32), st.2.2.2.2.2.2.2.2.2.2.2.2.2.2.2.2.1, st.2.2.2.2.2.2.2.2.2.2.2.2.2.2.2.2.2)
  else
    (st.1, st.2.1, st.2.2.1, st.2.2.2.2.2.2.1, (1 : Int32), (st.2.2.2.2.2.1 &&& (262144 : Int32)) + (0 : Int32), st.2.2.2.2.2.2.1, st.2.2.2.2.2.2.2.1, st.2.2.2.1 - x1, p1, p2, st.2.2.2.2.2.2.2.2.2.2.2.1, st.2.2.2.2.2.2.2.2.2.2.2.2.1, st.2.2.2.2.2.2.2.2.2.2.2.2.2.1, st.2.2.2.2.2.2.2.2.2.2.2.2.2.2.1, (1 : Int32), st.2.2.2.2.2.2.2.2.2.2.2.2.2.2.2.2.1, st.2.2.2.2.2.2.2.2.2.2.2.2.2.2.2.2.2)
set_option maxHeartbeats 4000000 in
set_option maxRecDepth 100000 in
theorem cr_trap (l : Launch) (dC : Nat → ClassId) (dI : Nat → Nat → Nat) (cI h0 qme0 qre1 tN tB : Nat) (sz : Nat) (st : RS) (p1 : Int32) (p2 : Int32)  : Met l yX1_trap (.code yX1_trap cX1_trap 3 none :: gBIG) ({ frames := 2, cells := 0, slots := 0, locals := 42 }) (va_Pc [.ref h0, .int p1, .int p2] (rPre dC dI cI h0 qme0 qre1 tN tB sz st)) (va_Qv (fun v => v = r_trap st p1 p2) (rB dC dI cI h0 qme0 qre1 (rA h0 qme0 qre1 sz)) (rA h0 qme0 qre1 sz)) 0 0 (rA h0 qme0 qre1 sz) := by
  refine Met.ofW (cc := cX1_trap) (maxL := 3) (ret := none) (by decide) rfl ?_
  intro p e s m args below meth c s₁ B hml hv
  obtain ⟨rfl, hsz, hP, hK, hD0, hZ⟩ := hv
  have hx := B.exec
  have hb := B.bytes
  have hr := B.returns
  have hts : ∀ w ∈ gBIG, w.before _ s = true := fun w h => atoms_spec (ws := (.code yX1_trap cX1_trap 3 none :: gBIG)) B.pre w (List.mem_cons_of_mem _ h)
  have hown : s.vm.findClass "PagedHartModel" = some m.cls := findClass_of_methodNamed B.named
  have hlocks := B.notSynchronized
  subst hsz
  have hD : va_D (rA h0 qme0 qre1 s.heap.size) (rW cI h0 qme0 qre1 st) := rD hD0
  have hS : va_S (rA h0 qme0 qre1 s.heap.size) s.heap s.heap [] := va_S.rf
  have hP : va_P (dC, dI) vwCl (rW cI h0 qme0 qre1 st) s.heap := hP
  have hl := lv_entry ([.ref h0, .int p1, .int p2]) (n := 3) (Nat.le_of_ble_eq_true rfl)
  rw [lg_entry_eq]
  generalize (lg_sl ([.ref h0, .int p1, .int p2]) ++ List.replicate (3 - (lg_sl ([.ref h0, .int p1, .int p2])).length) Slot.unset).toArray = ls at hl ⊢
  refine jgo (P := fun H locs => va_P (dC, dI) vwCl (rW cI h0 qme0 qre1 st) H ∧ va_S (rA h0 qme0 qre1 s.heap.size) s.heap H locs) ⟨hP, hS⟩ (fun H locs hPS => ?_)
  obtain ⟨hP, hS⟩ := hPS
  have hl : lv_has ls 3 [(0, .ref h0), (1, .int p1), (2, .int p2)] := hl
  refine lv_aload_n hx hb dX1_trap_0 rfl (lv_at hl 0 rfl) ?_
  refine lv_aload_n hx hb dX1_trap_1 rfl (lv_at hl 0 rfl) ?_
  refine va_get (D := (dC, dI)) (ci := 1) (v := .int st.2.2.2.1) (C := "PagedHartModel") (T := TX1) (N := 18) hx hb hts mU1 hown hK hP 0 rfl rfl 3 (by decide) (hts _ mF_1_75) (fun _ h9 => h9) rfl dX1_trap_2 ?_
  refine lv_aload_n hx hb dX1_trap_5 rfl (lv_at hl 0 rfl) ?_
  refine va_get (D := (dC, dI)) (ci := 1) (v := .int st.2.2.2.1) (C := "PagedHartModel") (T := TX1) (N := 18) hx hb hts mU1 hown hK hP 0 rfl rfl 3 (by decide) (hts _ mF_1_75) (fun _ h9 => h9) rfl dX1_trap_6 ?_
  refine lv_iconst (v := 0) hx hb dX1_trap_9 (by decide) ?_
  refine lv_iconst (v := 1) hx hb dX1_trap_10 (by decide) ?_
  refine W.callR (W.runS (As := [.int st.2.2.2.1, .int 0, .int 1]) (rest := [.int st.2.2.2.1, .ref h0]) ⟨hx, hb, hml, hown, hts⟩ (cr_bits l st.2.2.2.1 (0 : Int32) (1 : Int32)) (cwS 3 hts (gS mL_1_46 mS_1_bits mN_1 mB_1_bits) rfl rfl rfl (by decide +kernel) ⟨Nat.le_of_ble_eq_true rfl, Nat.le_of_ble_eq_true rfl⟩) ⟨jblind, fun _ _ _ => ⟨rfl, trivial⟩⟩ rfl rfl hl.1 rfl (lv_room (Nat.le_of_ble_eq_true rfl)) dX1_trap_11 ⟨Nat.zero_le _, Nat.zero_le _⟩) ?_
  refine W.eq (g2 := F0 m 14 ls (.int (r_bits st.2.2.2.1 (0 : Int32) (1 : Int32)) :: [.int st.2.2.2.1, .ref h0])) rfl ?_
  refine lv_topi (fun x1 ex1 => ?_)
  refine lv_isub hx hb dX1_trap_14 ?_
  refine va_put (D := (dC, dI)) (ci := 1) (v := .int (st.2.2.2.1 - x1)) (ty := .int) (C := "PagedHartModel") (T := TX1) (N := 18) hx hb hts mU1 tyX1 tyX1_ok nmX1 hown hK hP hD hS 0 rfl rfl 8 (by decide) (hts _ mF_1_78) (fun _ h9 => h9) rfl (by decide +kernel) rfl rfl (Nat.le_of_ble_eq_true rfl) dX1_trap_15 (fun H locs hP hD hS => ?_)
  have hP : va_P (dC, dI) vwCl (rW cI h0 qme0 qre1 (st.1, st.2.1, st.2.2.1, st.2.2.2.1, st.2.2.2.2.1, st.2.2.2.2.2.1, st.2.2.2.2.2.2.1, st.2.2.2.2.2.2.2.1, st.2.2.2.1 - x1, st.2.2.2.2.2.2.2.2.2.1, st.2.2.2.2.2.2.2.2.2.2.1, st.2.2.2.2.2.2.2.2.2.2.2.1, st.2.2.2.2.2.2.2.2.2.2.2.2.1, st.2.2.2.2.2.2.2.2.2.2.2.2.2.1, st.2.2.2.2.2.2.2.2.2.2.2.2.2.2.1, st.2.2.2.2.2.2.2.2.2.2.2.2.2.2.2.1, st.2.2.2.2.2.2.2.2.2.2.2.2.2.2.2.2.1, st.2.2.2.2.2.2.2.2.2.2.2.2.2.2.2.2.2)) H := hP
  have hD : va_D (rA h0 qme0 qre1 s.heap.size) (rW cI h0 qme0 qre1 (st.1, st.2.1, st.2.2.1, st.2.2.2.1, st.2.2.2.2.1, st.2.2.2.2.2.1, st.2.2.2.2.2.2.1, st.2.2.2.2.2.2.2.1, st.2.2.2.1 - x1, st.2.2.2.2.2.2.2.2.2.1, st.2.2.2.2.2.2.2.2.2.2.1, st.2.2.2.2.2.2.2.2.2.2.2.1, st.2.2.2.2.2.2.2.2.2.2.2.2.1, st.2.2.2.2.2.2.2.2.2.2.2.2.2.1, st.2.2.2.2.2.2.2.2.2.2.2.2.2.2.1, st.2.2.2.2.2.2.2.2.2.2.2.2.2.2.2.1, st.2.2.2.2.2.2.2.2.2.2.2.2.2.2.2.2.1, st.2.2.2.2.2.2.2.2.2.2.2.2.2.2.2.2.2)) := hD
  refine lv_aload_n hx hb dX1_trap_18 rfl (lv_at hl 0 rfl) ?_
  refine lv_iload_n hx hb dX1_trap_19 rfl (lv_at hl 1 rfl) ?_
  refine va_put (D := (dC, dI)) (ci := 1) (v := .int p1) (ty := .int) (C := "PagedHartModel") (T := TX1) (N := 18) hx hb hts mU1 tyX1 tyX1_ok nmX1 hown hK hP hD hS 0 rfl rfl 9 (by decide) (hts _ mF_1_81) (fun _ h9 => h9) rfl (by decide +kernel) rfl rfl (Nat.le_of_ble_eq_true rfl) dX1_trap_20 (fun H locs hP hD hS => ?_)
  have hP : va_P (dC, dI) vwCl (rW cI h0 qme0 qre1 (st.1, st.2.1, st.2.2.1, st.2.2.2.1, st.2.2.2.2.1, st.2.2.2.2.2.1, st.2.2.2.2.2.2.1, st.2.2.2.2.2.2.2.1, st.2.2.2.1 - x1, p1, st.2.2.2.2.2.2.2.2.2.2.1, st.2.2.2.2.2.2.2.2.2.2.2.1, st.2.2.2.2.2.2.2.2.2.2.2.2.1, st.2.2.2.2.2.2.2.2.2.2.2.2.2.1, st.2.2.2.2.2.2.2.2.2.2.2.2.2.2.1, st.2.2.2.2.2.2.2.2.2.2.2.2.2.2.2.1, st.2.2.2.2.2.2.2.2.2.2.2.2.2.2.2.2.1, st.2.2.2.2.2.2.2.2.2.2.2.2.2.2.2.2.2)) H := hP
  have hD : va_D (rA h0 qme0 qre1 s.heap.size) (rW cI h0 qme0 qre1 (st.1, st.2.1, st.2.2.1, st.2.2.2.1, st.2.2.2.2.1, st.2.2.2.2.2.1, st.2.2.2.2.2.2.1, st.2.2.2.2.2.2.2.1, st.2.2.2.1 - x1, p1, st.2.2.2.2.2.2.2.2.2.2.1, st.2.2.2.2.2.2.2.2.2.2.2.1, st.2.2.2.2.2.2.2.2.2.2.2.2.1, st.2.2.2.2.2.2.2.2.2.2.2.2.2.1, st.2.2.2.2.2.2.2.2.2.2.2.2.2.2.1, st.2.2.2.2.2.2.2.2.2.2.2.2.2.2.2.1, st.2.2.2.2.2.2.2.2.2.2.2.2.2.2.2.2.1, st.2.2.2.2.2.2.2.2.2.2.2.2.2.2.2.2.2)) := hD
  refine lv_aload_n hx hb dX1_trap_23 rfl (lv_at hl 0 rfl) ?_
  refine lv_iload_n hx hb dX1_trap_24 rfl (lv_at hl 2 rfl) ?_
  refine va_put (D := (dC, dI)) (ci := 1) (v := .int p2) (ty := .int) (C := "PagedHartModel") (T := TX1) (N := 18) hx hb hts mU1 tyX1 tyX1_ok nmX1 hown hK hP hD hS 0 rfl rfl 10 (by decide) (hts _ mF_1_84) (fun _ h9 => h9) rfl (by decide +kernel) rfl rfl (Nat.le_of_ble_eq_true rfl) dX1_trap_25 (fun H locs hP hD hS => ?_)
  have hP : va_P (dC, dI) vwCl (rW cI h0 qme0 qre1 (st.1, st.2.1, st.2.2.1, st.2.2.2.1, st.2.2.2.2.1, st.2.2.2.2.2.1, st.2.2.2.2.2.2.1, st.2.2.2.2.2.2.2.1, st.2.2.2.1 - x1, p1, p2, st.2.2.2.2.2.2.2.2.2.2.2.1, st.2.2.2.2.2.2.2.2.2.2.2.2.1, st.2.2.2.2.2.2.2.2.2.2.2.2.2.1, st.2.2.2.2.2.2.2.2.2.2.2.2.2.2.1, st.2.2.2.2.2.2.2.2.2.2.2.2.2.2.2.1, st.2.2.2.2.2.2.2.2.2.2.2.2.2.2.2.2.1, st.2.2.2.2.2.2.2.2.2.2.2.2.2.2.2.2.2)) H := hP
  have hD : va_D (rA h0 qme0 qre1 s.heap.size) (rW cI h0 qme0 qre1 (st.1, st.2.1, st.2.2.1, st.2.2.2.1, st.2.2.2.2.1, st.2.2.2.2.2.1, st.2.2.2.2.2.2.1, st.2.2.2.2.2.2.2.1, st.2.2.2.1 - x1, p1, p2, st.2.2.2.2.2.2.2.2.2.2.2.1, st.2.2.2.2.2.2.2.2.2.2.2.2.1, st.2.2.2.2.2.2.2.2.2.2.2.2.2.1, st.2.2.2.2.2.2.2.2.2.2.2.2.2.2.1, st.2.2.2.2.2.2.2.2.2.2.2.2.2.2.2.1, st.2.2.2.2.2.2.2.2.2.2.2.2.2.2.2.2.1, st.2.2.2.2.2.2.2.2.2.2.2.2.2.2.2.2.2)) := hD
  refine lv_aload_n hx hb dX1_trap_28 rfl (lv_at hl 0 rfl) ?_
  refine lv_aload_n hx hb dX1_trap_29 rfl (lv_at hl 0 rfl) ?_
  refine va_get (D := (dC, dI)) (ci := 1) (v := .int st.2.2.2.2.2.1) (C := "PagedHartModel") (T := TX1) (N := 18) hx hb hts mU1 hown hK hP 0 rfl rfl 5 (by decide) (hts _ mF_1_50) (fun _ h9 => h9) rfl dX1_trap_30 ?_
  refine lv_ldc (v := 262144) hx hb hown (hts _ mC_1_53) dX1_trap_33 ?_
  refine lv_iand hx hb dX1_trap_35 ?_
  refine lv_aload_n hx hb dX1_trap_36 rfl (lv_at hl 0 rfl) ?_
  refine va_get (D := (dC, dI)) (ci := 1) (v := .int st.2.2.2.2.1) (C := "PagedHartModel") (T := TX1) (N := 18) hx hb hts mU1 hown hK hP 0 rfl rfl 4 (by decide) (hts _ mF_1_17) (fun _ h9 => h9) rfl dX1_trap_37 ?_
  refine lv_iconst (v := 1) hx hb dX1_trap_40 (by decide) ?_
  refine lv_icmp_ne (tgt := 50) hx hb dX1_trap_41 (by decide) (fun c2 => ?_) (fun c2 => ?_)
  · refine lv_iconst (v := 0) hx hb dX1_trap_50 (by decide) ?_
    refine lv_iadd hx hb dX1_trap_51 ?_
    refine va_put (D := (dC, dI)) (ci := 1) (v := .int ((st.2.2.2.2.2.1 &&& (262144 : Int32)) + (0 : Int32))) (ty := .int) (C := "PagedHartModel") (T := TX1) (N := 18) hx hb hts mU1 tyX1 tyX1_ok nmX1 hown hK hP hD hS 0 rfl rfl 5 (by decide) (hts _ mF_1_50) (fun _ h9 => h9) rfl (by decide +kernel) rfl rfl (Nat.le_of_ble_eq_true rfl) dX1_trap_52 (fun H locs hP hD hS => ?_)
    have hP : va_P (dC, dI) vwCl (rW cI h0 qme0 qre1 (st.1, st.2.1, st.2.2.1, st.2.2.2.1, st.2.2.2.2.1, (st.2.2.2.2.2.1 &&& (262144 : Int32)) + (0 : Int32), st.2.2.2.2.2.2.1, st.2.2.2.2.2.2.2.1, st.2.2.2.1 - x1, p1, p2, st.2.2.2.2.2.2.2.2.2.2.2.1, st.2.2.2.2.2.2.2.2.2.2.2.2.1, st.2.2.2.2.2.2.2.2.2.2.2.2.2.1, st.2.2.2.2.2.2.2.2.2.2.2.2.2.2.1, st.2.2.2.2.2.2.2.2.2.2.2.2.2.2.2.1, st.2.2.2.2.2.2.2.2.2.2.2.2.2.2.2.2.1, st.2.2.2.2.2.2.2.2.2.2.2.2.2.2.2.2.2)) H := hP
    have hD : va_D (rA h0 qme0 qre1 s.heap.size) (rW cI h0 qme0 qre1 (st.1, st.2.1, st.2.2.1, st.2.2.2.1, st.2.2.2.2.1, (st.2.2.2.2.2.1 &&& (262144 : Int32)) + (0 : Int32), st.2.2.2.2.2.2.1, st.2.2.2.2.2.2.2.1, st.2.2.2.1 - x1, p1, p2, st.2.2.2.2.2.2.2.2.2.2.2.1, st.2.2.2.2.2.2.2.2.2.2.2.2.1, st.2.2.2.2.2.2.2.2.2.2.2.2.2.1, st.2.2.2.2.2.2.2.2.2.2.2.2.2.2.1, st.2.2.2.2.2.2.2.2.2.2.2.2.2.2.2.1, st.2.2.2.2.2.2.2.2.2.2.2.2.2.2.2.2.1, st.2.2.2.2.2.2.2.2.2.2.2.2.2.2.2.2.2)) := hD
    refine lv_aload_n hx hb dX1_trap_55 rfl (lv_at hl 0 rfl) ?_
    refine lv_iconst (v := 1) hx hb dX1_trap_56 (by decide) ?_
    refine va_put (D := (dC, dI)) (ci := 1) (v := .int 1) (ty := .int) (C := "PagedHartModel") (T := TX1) (N := 18) hx hb hts mU1 tyX1 tyX1_ok nmX1 hown hK hP hD hS 0 rfl rfl 4 (by decide) (hts _ mF_1_17) (fun _ h9 => h9) rfl (by decide +kernel) rfl rfl (Nat.le_of_ble_eq_true rfl) dX1_trap_57 (fun H locs hP hD hS => ?_)
    have hP : va_P (dC, dI) vwCl (rW cI h0 qme0 qre1 (st.1, st.2.1, st.2.2.1, st.2.2.2.1, (1 : Int32), (st.2.2.2.2.2.1 &&& (262144 : Int32)) + (0 : Int32), st.2.2.2.2.2.2.1, st.2.2.2.2.2.2.2.1, st.2.2.2.1 - x1, p1, p2, st.2.2.2.2.2.2.2.2.2.2.2.1, st.2.2.2.2.2.2.2.2.2.2.2.2.1, st.2.2.2.2.2.2.2.2.2.2.2.2.2.1, st.2.2.2.2.2.2.2.2.2.2.2.2.2.2.1, st.2.2.2.2.2.2.2.2.2.2.2.2.2.2.2.1, st.2.2.2.2.2.2.2.2.2.2.2.2.2.2.2.2.1, st.2.2.2.2.2.2.2.2.2.2.2.2.2.2.2.2.2)) H := hP
    have hD : va_D (rA h0 qme0 qre1 s.heap.size) (rW cI h0 qme0 qre1 (st.1, st.2.1, st.2.2.1, st.2.2.2.1, (1 : Int32), (st.2.2.2.2.2.1 &&& (262144 : Int32)) + (0 : Int32), st.2.2.2.2.2.2.1, st.2.2.2.2.2.2.2.1, st.2.2.2.1 - x1, p1, p2, st.2.2.2.2.2.2.2.2.2.2.2.1, st.2.2.2.2.2.2.2.2.2.2.2.2.1, st.2.2.2.2.2.2.2.2.2.2.2.2.2.1, st.2.2.2.2.2.2.2.2.2.2.2.2.2.2.1, st.2.2.2.2.2.2.2.2.2.2.2.2.2.2.2.1, st.2.2.2.2.2.2.2.2.2.2.2.2.2.2.2.2.1, st.2.2.2.2.2.2.2.2.2.2.2.2.2.2.2.2.2)) := hD
    refine lv_aload_n hx hb dX1_trap_60 rfl (lv_at hl 0 rfl) ?_
    refine lv_aload_n hx hb dX1_trap_61 rfl (lv_at hl 0 rfl) ?_
    refine va_get (D := (dC, dI)) (ci := 1) (v := .int st.2.2.2.2.2.2.1) (C := "PagedHartModel") (T := TX1) (N := 18) hx hb hts mU1 hown hK hP 0 rfl rfl 6 (by decide) (hts _ mF_1_87) (fun _ h9 => h9) rfl dX1_trap_62 ?_
    refine va_put (D := (dC, dI)) (ci := 1) (v := .int st.2.2.2.2.2.2.1) (ty := .int) (C := "PagedHartModel") (T := TX1) (N := 18) hx hb hts mU1 tyX1 tyX1_ok nmX1 hown hK hP hD hS 0 rfl rfl 3 (by decide) (hts _ mF_1_75) (fun _ h9 => h9) rfl (by decide +kernel) rfl rfl (Nat.le_of_ble_eq_true rfl) dX1_trap_65 (fun H locs hP hD hS => ?_)
    have hP : va_P (dC, dI) vwCl (rW cI h0 qme0 qre1 (st.1, st.2.1, st.2.2.1, st.2.2.2.2.2.2.1, (1 : Int32), (st.2.2.2.2.2.1 &&& (262144 : Int32)) + (0 : Int32), st.2.2.2.2.2.2.1, st.2.2.2.2.2.2.2.1, st.2.2.2.1 - x1, p1, p2, st.2.2.2.2.2.2.2.2.2.2.2.1, st.2.2.2.2.2.2.2.2.2.2.2.2.1, st.2.2.2.2.2.2.2.2.2.2.2.2.2.1, st.2.2.2.2.2.2.2.2.2.2.2.2.2.2.1, st.2.2.2.2.2.2.2.2.2.2.2.2.2.2.2.1, st.2.2.2.2.2.2.2.2.2.2.2.2.2.2.2.2.1, st.2.2.2.2.2.2.2.2.2.2.2.2.2.2.2.2.2)) H := hP
    have hD : va_D (rA h0 qme0 qre1 s.heap.size) (rW cI h0 qme0 qre1 (st.1, st.2.1, st.2.2.1, st.2.2.2.2.2.2.1, (1 : Int32), (st.2.2.2.2.2.1 &&& (262144 : Int32)) + (0 : Int32), st.2.2.2.2.2.2.1, st.2.2.2.2.2.2.2.1, st.2.2.2.1 - x1, p1, p2, st.2.2.2.2.2.2.2.2.2.2.2.1, st.2.2.2.2.2.2.2.2.2.2.2.2.1, st.2.2.2.2.2.2.2.2.2.2.2.2.2.1, st.2.2.2.2.2.2.2.2.2.2.2.2.2.2.1, st.2.2.2.2.2.2.2.2.2.2.2.2.2.2.2.1, st.2.2.2.2.2.2.2.2.2.2.2.2.2.2.2.2.1, st.2.2.2.2.2.2.2.2.2.2.2.2.2.2.2.2.2)) := hD
    refine lv_aload_n hx hb dX1_trap_68 rfl (lv_at hl 0 rfl) ?_
    refine lv_iconst (v := 1) hx hb dX1_trap_69 (by decide) ?_
    refine va_put (D := (dC, dI)) (ci := 1) (v := .int 1) (ty := .boolean) (C := "PagedHartModel") (T := TX1) (N := 18) hx hb hts mU1 tyX1 tyX1_ok nmX1 hown hK hP hD hS 0 rfl rfl 15 (by decide) (hts _ mF_1_90) (fun _ h9 => h9) rfl (by decide +kernel) rfl rfl (Nat.le_of_ble_eq_true rfl) dX1_trap_70 (fun H locs hP hD hS => ?_)
    have hP : va_P (dC, dI) vwCl (rW cI h0 qme0 qre1 (st.1, st.2.1, st.2.2.1, st.2.2.2.2.2.2.1, (1 : Int32), (st.2.2.2.2.2.1 &&& (262144 : Int32)) + (0 : Int32), st.2.2.2.2.2.2.1, st.2.2.2.2.2.2.2.1, st.2.2.2.1 - x1, p1, p2, st.2.2.2.2.2.2.2.2.2.2.2.1, st.2.2.2.2.2.2.2.2.2.2.2.2.1, st.2.2.2.2.2.2.2.2.2.2.2.2.2.1, st.2.2.2.2.2.2.2.2.2.2.2.2.2.2.1, (1 : Int32), st.2.2.2.2.2.2.2.2.2.2.2.2.2.2.2.2.1, st.2.2.2.2.2.2.2.2.2.2.2.2.2.2.2.2.2)) H := hP
    have hD : va_D (rA h0 qme0 qre1 s.heap.size) (rW cI h0 qme0 qre1 (st.1, st.2.1, st.2.2.1, st.2.2.2.2.2.2.1, (1 : Int32), (st.2.2.2.2.2.1 &&& (262144 : Int32)) + (0 : Int32), st.2.2.2.2.2.2.1, st.2.2.2.2.2.2.2.1, st.2.2.2.1 - x1, p1, p2, st.2.2.2.2.2.2.2.2.2.2.2.1, st.2.2.2.2.2.2.2.2.2.2.2.2.1, st.2.2.2.2.2.2.2.2.2.2.2.2.2.1, st.2.2.2.2.2.2.2.2.2.2.2.2.2.2.1, (1 : Int32), st.2.2.2.2.2.2.2.2.2.2.2.2.2.2.2.2.1, st.2.2.2.2.2.2.2.2.2.2.2.2.2.2.2.2.2)) := hD
    exact rVret (u := (st.1, st.2.1, st.2.2.1, st.2.2.2.2.2.2.1, (1 : Int32), (st.2.2.2.2.2.1 &&& (262144 : Int32)) + (0 : Int32), st.2.2.2.2.2.2.1, st.2.2.2.2.2.2.2.1, st.2.2.2.1 - x1, p1, p2, st.2.2.2.2.2.2.2.2.2.2.2.1, st.2.2.2.2.2.2.2.2.2.2.2.2.1, st.2.2.2.2.2.2.2.2.2.2.2.2.2.1, st.2.2.2.2.2.2.2.2.2.2.2.2.2.2.1, (1 : Int32), st.2.2.2.2.2.2.2.2.2.2.2.2.2.2.2.2.1, st.2.2.2.2.2.2.2.2.2.2.2.2.2.2.2.2.2)) hx hb hr hlocks (by subst ex1; exact (((if_neg c2).trans rfl)).symm) hK hP hD hS dX1_trap_73
  · refine lv_sipush (v := 256) hx hb dX1_trap_44 (by decide) ?_
    refine lv_goto (tgt := 51) hx hb dX1_trap_47 (by decide) ?_
    refine lv_iadd hx hb dX1_trap_51 ?_
    refine va_put (D := (dC, dI)) (ci := 1) (v := .int ((st.2.2.2.2.2.1 &&& (262144 : Int32)) + (256 : Int32))) (ty := .int) (C := "PagedHartModel") (T := TX1) (N := 18) hx hb hts mU1 tyX1 tyX1_ok nmX1 hown hK hP hD hS 0 rfl rfl 5 (by decide) (hts _ mF_1_50) (fun _ h9 => h9) rfl (by decide +kernel) rfl rfl (Nat.le_of_ble_eq_true rfl) dX1_trap_52 (fun H locs hP hD hS => ?_)
    have hP : va_P (dC, dI) vwCl (rW cI h0 qme0 qre1 (st.1, st.2.1, st.2.2.1, st.2.2.2.1, st.2.2.2.2.1, (st.2.2.2.2.2.1 &&& (262144 : Int32)) + (256 : Int32), st.2.2.2.2.2.2.1, st.2.2.2.2.2.2.2.1, st.2.2.2.1 - x1, p1, p2, st.2.2.2.2.2.2.2.2.2.2.2.1, st.2.2.2.2.2.2.2.2.2.2.2.2.1, st.2.2.2.2.2.2.2.2.2.2.2.2.2.1, st.2.2.2.2.2.2.2.2.2.2.2.2.2.2.1, st.2.2.2.2.2.2.2.2.2.2.2.2.2.2.2.1, st.2.2.2.2.2.2.2.2.2.2.2.2.2.2.2.2.1, st.2.2.2.2.2.2.2.2.2.2.2.2.2.2.2.2.2)) H := hP
    have hD : va_D (rA h0 qme0 qre1 s.heap.size) (rW cI h0 qme0 qre1 (st.1, st.2.1, st.2.2.1, st.2.2.2.1, st.2.2.2.2.1, (st.2.2.2.2.2.1 &&& (262144 : Int32)) + (256 : Int32), st.2.2.2.2.2.2.1, st.2.2.2.2.2.2.2.1, st.2.2.2.1 - x1, p1, p2, st.2.2.2.2.2.2.2.2.2.2.2.1, st.2.2.2.2.2.2.2.2.2.2.2.2.1, st.2.2.2.2.2.2.2.2.2.2.2.2.2.1, st.2.2.2.2.2.2.2.2.2.2.2.2.2.2.1, st.2.2.2.2.2.2.2.2.2.2.2.2.2.2.2.1, st.2.2.2.2.2.2.2.2.2.2.2.2.2.2.2.2.1, st.2.2.2.2.2.2.2.2.2.2.2.2.2.2.2.2.2)) := hD
    refine lv_aload_n hx hb dX1_trap_55 rfl (lv_at hl 0 rfl) ?_
    refine lv_iconst (v := 1) hx hb dX1_trap_56 (by decide) ?_
    refine va_put (D := (dC, dI)) (ci := 1) (v := .int 1) (ty := .int) (C := "PagedHartModel") (T := TX1) (N := 18) hx hb hts mU1 tyX1 tyX1_ok nmX1 hown hK hP hD hS 0 rfl rfl 4 (by decide) (hts _ mF_1_17) (fun _ h9 => h9) rfl (by decide +kernel) rfl rfl (Nat.le_of_ble_eq_true rfl) dX1_trap_57 (fun H locs hP hD hS => ?_)
    have hP : va_P (dC, dI) vwCl (rW cI h0 qme0 qre1 (st.1, st.2.1, st.2.2.1, st.2.2.2.1, (1 : Int32), (st.2.2.2.2.2.1 &&& (262144 : Int32)) + (256 : Int32), st.2.2.2.2.2.2.1, st.2.2.2.2.2.2.2.1, st.2.2.2.1 - x1, p1, p2, st.2.2.2.2.2.2.2.2.2.2.2.1, st.2.2.2.2.2.2.2.2.2.2.2.2.1, st.2.2.2.2.2.2.2.2.2.2.2.2.2.1, st.2.2.2.2.2.2.2.2.2.2.2.2.2.2.1, st.2.2.2.2.2.2.2.2.2.2.2.2.2.2.2.1, st.2.2.2.2.2.2.2.2.2.2.2.2.2.2.2.2.1, st.2.2.2.2.2.2.2.2.2.2.2.2.2.2.2.2.2)) H := hP
    have hD : va_D (rA h0 qme0 qre1 s.heap.size) (rW cI h0 qme0 qre1 (st.1, st.2.1, st.2.2.1, st.2.2.2.1, (1 : Int32), (st.2.2.2.2.2.1 &&& (262144 : Int32)) + (256 : Int32), st.2.2.2.2.2.2.1, st.2.2.2.2.2.2.2.1, st.2.2.2.1 - x1, p1, p2, st.2.2.2.2.2.2.2.2.2.2.2.1, st.2.2.2.2.2.2.2.2.2.2.2.2.1, st.2.2.2.2.2.2.2.2.2.2.2.2.2.1, st.2.2.2.2.2.2.2.2.2.2.2.2.2.2.1, st.2.2.2.2.2.2.2.2.2.2.2.2.2.2.2.1, st.2.2.2.2.2.2.2.2.2.2.2.2.2.2.2.2.1, st.2.2.2.2.2.2.2.2.2.2.2.2.2.2.2.2.2)) := hD
    refine lv_aload_n hx hb dX1_trap_60 rfl (lv_at hl 0 rfl) ?_
    refine lv_aload_n hx hb dX1_trap_61 rfl (lv_at hl 0 rfl) ?_
    refine va_get (D := (dC, dI)) (ci := 1) (v := .int st.2.2.2.2.2.2.1) (C := "PagedHartModel") (T := TX1) (N := 18) hx hb hts mU1 hown hK hP 0 rfl rfl 6 (by decide) (hts _ mF_1_87) (fun _ h9 => h9) rfl dX1_trap_62 ?_
    refine va_put (D := (dC, dI)) (ci := 1) (v := .int st.2.2.2.2.2.2.1) (ty := .int) (C := "PagedHartModel") (T := TX1) (N := 18) hx hb hts mU1 tyX1 tyX1_ok nmX1 hown hK hP hD hS 0 rfl rfl 3 (by decide) (hts _ mF_1_75) (fun _ h9 => h9) rfl (by decide +kernel) rfl rfl (Nat.le_of_ble_eq_true rfl) dX1_trap_65 (fun H locs hP hD hS => ?_)
    have hP : va_P (dC, dI) vwCl (rW cI h0 qme0 qre1 (st.1, st.2.1, st.2.2.1, st.2.2.2.2.2.2.1, (1 : Int32), (st.2.2.2.2.2.1 &&& (262144 : Int32)) + (256 : Int32), st.2.2.2.2.2.2.1, st.2.2.2.2.2.2.2.1, st.2.2.2.1 - x1, p1, p2, st.2.2.2.2.2.2.2.2.2.2.2.1, st.2.2.2.2.2.2.2.2.2.2.2.2.1, st.2.2.2.2.2.2.2.2.2.2.2.2.2.1, st.2.2.2.2.2.2.2.2.2.2.2.2.2.2.1, st.2.2.2.2.2.2.2.2.2.2.2.2.2.2.2.1, st.2.2.2.2.2.2.2.2.2.2.2.2.2.2.2.2.1, st.2.2.2.2.2.2.2.2.2.2.2.2.2.2.2.2.2)) H := hP
    have hD : va_D (rA h0 qme0 qre1 s.heap.size) (rW cI h0 qme0 qre1 (st.1, st.2.1, st.2.2.1, st.2.2.2.2.2.2.1, (1 : Int32), (st.2.2.2.2.2.1 &&& (262144 : Int32)) + (256 : Int32), st.2.2.2.2.2.2.1, st.2.2.2.2.2.2.2.1, st.2.2.2.1 - x1, p1, p2, st.2.2.2.2.2.2.2.2.2.2.2.1, st.2.2.2.2.2.2.2.2.2.2.2.2.1, st.2.2.2.2.2.2.2.2.2.2.2.2.2.1, st.2.2.2.2.2.2.2.2.2.2.2.2.2.2.1, st.2.2.2.2.2.2.2.2.2.2.2.2.2.2.2.1, st.2.2.2.2.2.2.2.2.2.2.2.2.2.2.2.2.1, st.2.2.2.2.2.2.2.2.2.2.2.2.2.2.2.2.2)) := hD
    refine lv_aload_n hx hb dX1_trap_68 rfl (lv_at hl 0 rfl) ?_
    refine lv_iconst (v := 1) hx hb dX1_trap_69 (by decide) ?_
    refine va_put (D := (dC, dI)) (ci := 1) (v := .int 1) (ty := .boolean) (C := "PagedHartModel") (T := TX1) (N := 18) hx hb hts mU1 tyX1 tyX1_ok nmX1 hown hK hP hD hS 0 rfl rfl 15 (by decide) (hts _ mF_1_90) (fun _ h9 => h9) rfl (by decide +kernel) rfl rfl (Nat.le_of_ble_eq_true rfl) dX1_trap_70 (fun H locs hP hD hS => ?_)
    have hP : va_P (dC, dI) vwCl (rW cI h0 qme0 qre1 (st.1, st.2.1, st.2.2.1, st.2.2.2.2.2.2.1, (1 : Int32), (st.2.2.2.2.2.1 &&& (262144 : Int32)) + (256 : Int32), st.2.2.2.2.2.2.1, st.2.2.2.2.2.2.2.1, st.2.2.2.1 - x1, p1, p2, st.2.2.2.2.2.2.2.2.2.2.2.1, st.2.2.2.2.2.2.2.2.2.2.2.2.1, st.2.2.2.2.2.2.2.2.2.2.2.2.2.1, st.2.2.2.2.2.2.2.2.2.2.2.2.2.2.1, (1 : Int32), st.2.2.2.2.2.2.2.2.2.2.2.2.2.2.2.2.1, st.2.2.2.2.2.2.2.2.2.2.2.2.2.2.2.2.2)) H := hP
    have hD : va_D (rA h0 qme0 qre1 s.heap.size) (rW cI h0 qme0 qre1 (st.1, st.2.1, st.2.2.1, st.2.2.2.2.2.2.1, (1 : Int32), (st.2.2.2.2.2.1 &&& (262144 : Int32)) + (256 : Int32), st.2.2.2.2.2.2.1, st.2.2.2.2.2.2.2.1, st.2.2.2.1 - x1, p1, p2, st.2.2.2.2.2.2.2.2.2.2.2.1, st.2.2.2.2.2.2.2.2.2.2.2.2.1, st.2.2.2.2.2.2.2.2.2.2.2.2.2.1, st.2.2.2.2.2.2.2.2.2.2.2.2.2.2.1, (1 : Int32), st.2.2.2.2.2.2.2.2.2.2.2.2.2.2.2.2.1, st.2.2.2.2.2.2.2.2.2.2.2.2.2.2.2.2.2)) := hD
    exact rVret (u := (st.1, st.2.1, st.2.2.1, st.2.2.2.2.2.2.1, (1 : Int32), (st.2.2.2.2.2.1 &&& (262144 : Int32)) + (256 : Int32), st.2.2.2.2.2.2.1, st.2.2.2.2.2.2.2.1, st.2.2.2.1 - x1, p1, p2, st.2.2.2.2.2.2.2.2.2.2.2.1, st.2.2.2.2.2.2.2.2.2.2.2.2.1, st.2.2.2.2.2.2.2.2.2.2.2.2.2.1, st.2.2.2.2.2.2.2.2.2.2.2.2.2.2.1, (1 : Int32), st.2.2.2.2.2.2.2.2.2.2.2.2.2.2.2.2.1, st.2.2.2.2.2.2.2.2.2.2.2.2.2.2.2.2.2)) hx hb hr hlocks (by subst ex1; exact (((if_pos c2).trans rfl)).symm) hK hP hD hS dX1_trap_73

def r_reach (st : RS) (p1 : Int32) (p2 : Int32) (p3 : Int32) : Int32 × RS :=
  let x1 : Int32 := r_bits p1 (0 : Int32) (1 : Int32)
  if (x1 - x1 / p2 * p2) = 0 then
    let z3 : Int32 × RS := r_translated st p1 p3
    let x4 : Int32 := z3.1
    if z3.2.2.2.2.2.2.2.2.2.2.2.2.2.2.2.2.2.2 < 0 then
      (x4, z3.2)
    else
      let z6 : RS := r_trap z3.2 z3.2.2.2.2.2.2.2.2.2.2.2.2.2.2.2.2.2.2 p1
      (x4, z6)
  else
    if p3 = 0 then
      let z11 : RS := r_trap st (0 : Int32) p1
      ((0 : Int32), z11)
    else
      if p3 = (1 : Int32) then
        let z10 : RS := r_trap st (4 : Int32) p1
        ((0 : Int32), z10)
      else
        let z9 : RS := r_trap st (6 : Int32) p1
        ((0 : Int32), z9)
set_option maxHeartbeats 4000000 in
set_option maxRecDepth 100000 in
theorem cr_reach (l : Launch) (dC : Nat → ClassId) (dI : Nat → Nat → Nat) (cI h0 qme0 qre1 tN tB : Nat) (sz : Nat) (st : RS) (p1 : Int32) (p2 : Int32) (p3 : Int32) (hp2 : ¬ p2 = 0)  : Met l yX1_reach (.code yX1_reach cX1_reach 5 (some .int) :: gBIG) ({ frames := 4, cells := 0, slots := 0, locals := 92 }) (va_Pc [.ref h0, .int p1, .int p2, .int p3] (rPre dC dI cI h0 qme0 qre1 tN tB sz st)) (va_Qi (fun r v => (r, v) = r_reach st p1 p2 p3) (rB dC dI cI h0 qme0 qre1 (rA h0 qme0 qre1 sz)) (rA h0 qme0 qre1 sz)) 0 0 (rA h0 qme0 qre1 sz) := by
  refine Met.ofW (cc := cX1_reach) (maxL := 5) (ret := (some .int)) (by decide) rfl ?_
  intro p e s m args below meth c s₁ B hml hv
  obtain ⟨rfl, hsz, hP, hK, hD0, hZ⟩ := hv
  have hx := B.exec
  have hb := B.bytes
  have hr := B.returns
  have hts : ∀ w ∈ gBIG, w.before _ s = true := fun w h => atoms_spec (ws := (.code yX1_reach cX1_reach 5 (some .int) :: gBIG)) B.pre w (List.mem_cons_of_mem _ h)
  have hown : s.vm.findClass "PagedHartModel" = some m.cls := findClass_of_methodNamed B.named
  have hlocks := B.notSynchronized
  subst hsz
  have hD : va_D (rA h0 qme0 qre1 s.heap.size) (rW cI h0 qme0 qre1 st) := rD hD0
  have hS : va_S (rA h0 qme0 qre1 s.heap.size) s.heap s.heap [] := va_S.rf
  have hP : va_P (dC, dI) vwCl (rW cI h0 qme0 qre1 st) s.heap := hP
  have hl := lv_entry ([.ref h0, .int p1, .int p2, .int p3]) (n := 5) (Nat.le_of_ble_eq_true rfl)
  rw [lg_entry_eq]
  generalize (lg_sl ([.ref h0, .int p1, .int p2, .int p3]) ++ List.replicate (5 - (lg_sl ([.ref h0, .int p1, .int p2, .int p3])).length) Slot.unset).toArray = ls at hl ⊢
  refine jgo (P := fun H locs => va_P (dC, dI) vwCl (rW cI h0 qme0 qre1 st) H ∧ va_S (rA h0 qme0 qre1 s.heap.size) s.heap H locs) ⟨hP, hS⟩ (fun H locs hPS => ?_)
  obtain ⟨hP, hS⟩ := hPS
  have hl : lv_has ls 5 [(0, .ref h0), (1, .int p1), (2, .int p2), (3, .int p3)] := hl
  refine lv_iload_n hx hb dX1_reach_0 rfl (lv_at hl 1 rfl) ?_
  refine lv_iconst (v := 0) hx hb dX1_reach_1 (by decide) ?_
  refine lv_iconst (v := 1) hx hb dX1_reach_2 (by decide) ?_
  refine W.callR (W.runS (As := [.int p1, .int 0, .int 1]) (rest := []) ⟨hx, hb, hml, hown, hts⟩ (cr_bits l p1 (0 : Int32) (1 : Int32)) (cwS 3 hts (gS mL_1_46 mS_1_bits mN_1 mB_1_bits) rfl rfl rfl (by decide +kernel) ⟨Nat.le_of_ble_eq_true rfl, Nat.le_of_ble_eq_true rfl⟩) ⟨jblind, fun _ _ _ => ⟨rfl, trivial⟩⟩ rfl rfl hl.1 rfl (lv_room (Nat.le_of_ble_eq_true rfl)) dX1_reach_3 ⟨Nat.zero_le _, Nat.zero_le _⟩) ?_
  refine W.eq (g2 := F0 m 6 ls (.int (r_bits p1 (0 : Int32) (1 : Int32)) :: [])) rfl ?_
  refine lv_topi (fun x1 ex1 => ?_)
  refine lv_iload_n hx hb dX1_reach_6 rfl (lv_at hl 2 rfl) ?_
  refine lv_irem hx hb dX1_reach_7 hp2 ?_
  refine lv_if_eq (tgt := 37) hx hb dX1_reach_8 (by decide) (fun c2 => ?_) (fun c2 => ?_)
  · refine lv_aload_n hx hb dX1_reach_37 rfl (lv_at hl 0 rfl) ?_
    refine lv_iload_n hx hb dX1_reach_38 rfl (lv_at hl 1 rfl) ?_
    refine lv_iload_n hx hb dX1_reach_39 rfl (lv_at hl 3 rfl) ?_
    refine rMi (As := [.int p1, .int p3]) (rest := []) (f := r_translated st p1 p3) ⟨hx, hb, hml, hown, hts⟩ (cr_translated l dC dI cI h0 qme0 qre1 tN tB H.size st p1 p3) (cwV 2 hts (gV mL_1_97 mI_1_translated mX_1_translated mN_1 mB_1_translated) rfl rfl rfl (by decide +kernel) ⟨Nat.le_of_ble_eq_true rfl, Nat.le_of_ble_eq_true rfl⟩) hK hP hD hS hZ rfl hl.1 rfl (Nat.le_of_ble_eq_true rfl) dX1_reach_40 ⟨Nat.zero_le _, Nat.zero_le _⟩ (fun z3 ez3 H locs hP hD hS => ?_)
    have hP : va_P (dC, dI) vwCl (rW cI h0 qme0 qre1 z3.2) H := hP
    have hD : va_D (rA h0 qme0 qre1 s.heap.size) (rW cI h0 qme0 qre1 z3.2) := hD
    refine lv_topi (fun x4 ex4 => ?_)
    refine lv_istore (lv' := [(4, .int x4), (0, .ref h0), (1, .int p1), (2, .int p2), (3, .int p3)]) hx hb dX1_reach_43 hl (by decide) rfl (fun ls hl => ?_)
    refine lv_aload_n hx hb dX1_reach_45 rfl (lv_at hl 1 rfl) ?_
    refine va_get (D := (dC, dI)) (ci := 1) (v := .int z3.2.2.2.2.2.2.2.2.2.2.2.2.2.2.2.2.2.2) (C := "PagedHartModel") (T := TX1) (N := 18) hx hb hts mU1 hown hK hP 0 rfl rfl 17 (by decide) (hts _ mF_1_54) (fun _ h9 => h9) rfl dX1_reach_46 ?_
    refine lv_if_lt (tgt := 61) hx hb dX1_reach_49 (by decide) (fun c5 => ?_) (fun c5 => ?_)
    · refine lv_iload hx hb dX1_reach_61 (lv_at hl 0 rfl) ?_
      exact rIret (v := x4) (u := z3.2) hx hb hr hlocks (by subst ex4 ez3 ex1; exact (((if_pos c2).trans ((if_pos c5).trans rfl))).symm) hK hP hD hS dX1_reach_63
    · refine lv_aload_n hx hb dX1_reach_52 rfl (lv_at hl 1 rfl) ?_
      refine lv_aload_n hx hb dX1_reach_53 rfl (lv_at hl 1 rfl) ?_
      refine va_get (D := (dC, dI)) (ci := 1) (v := .int z3.2.2.2.2.2.2.2.2.2.2.2.2.2.2.2.2.2.2) (C := "PagedHartModel") (T := TX1) (N := 18) hx hb hts mU1 hown hK hP 0 rfl rfl 17 (by decide) (hts _ mF_1_54) (fun _ h9 => h9) rfl dX1_reach_54 ?_
      refine lv_iload_n hx hb dX1_reach_57 rfl (lv_at hl 2 rfl) ?_
      refine rMv (As := [.int z3.2.2.2.2.2.2.2.2.2.2.2.2.2.2.2.2.2.2, .int p1]) (rest := []) (f := r_trap z3.2 z3.2.2.2.2.2.2.2.2.2.2.2.2.2.2.2.2.2.2 p1) ⟨hx, hb, hml, hown, hts⟩ (cr_trap l dC dI cI h0 qme0 qre1 tN tB H.size z3.2 z3.2.2.2.2.2.2.2.2.2.2.2.2.2.2.2.2.2.2 p1) (cwV 2 hts (gV mL_1_93 mI_1_trap mX_1_trap mN_1 mB_1_trap) rfl rfl rfl (by decide +kernel) ⟨Nat.le_of_ble_eq_true rfl, Nat.le_of_ble_eq_true rfl⟩) hK hP hD hS hZ rfl hl.1 rfl (Nat.le_of_ble_eq_true rfl) dX1_reach_58 ⟨Nat.zero_le _, Nat.zero_le _⟩ (fun z6 ez6 H locs hP hD hS => ?_)
      have hP : va_P (dC, dI) vwCl (rW cI h0 qme0 qre1 z6) H := hP
      have hD : va_D (rA h0 qme0 qre1 s.heap.size) (rW cI h0 qme0 qre1 z6) := hD
      refine lv_iload hx hb dX1_reach_61 (lv_at hl 0 rfl) ?_
      exact rIret (v := x4) (u := z6) hx hb hr hlocks (by subst ez6 ex4 ez3 ex1; exact (((if_pos c2).trans ((if_neg c5).trans rfl))).symm) hK hP hD hS dX1_reach_63
  · refine lv_aload_n hx hb dX1_reach_11 rfl (lv_at hl 0 rfl) ?_
    refine lv_iload_n hx hb dX1_reach_12 rfl (lv_at hl 3 rfl) ?_
    refine lv_if_ne (tgt := 20) hx hb dX1_reach_13 (by decide) (fun c7 => ?_) (fun c7 => ?_)
    · refine lv_iload_n hx hb dX1_reach_20 rfl (lv_at hl 3 rfl) ?_
      refine lv_iconst (v := 1) hx hb dX1_reach_21 (by decide) ?_
      refine lv_icmp_ne (tgt := 29) hx hb dX1_reach_22 (by decide) (fun c8 => ?_) (fun c8 => ?_)
      · refine lv_bipush (v := 6) hx hb dX1_reach_29 (by decide) ?_
        refine lv_iload_n hx hb dX1_reach_31 rfl (lv_at hl 1 rfl) ?_
        refine rMv (As := [.int 6, .int p1]) (rest := []) (f := r_trap st (6 : Int32) p1) ⟨hx, hb, hml, hown, hts⟩ (cr_trap l dC dI cI h0 qme0 qre1 tN tB H.size st (6 : Int32) p1) (cwV 2 hts (gV mL_1_93 mI_1_trap mX_1_trap mN_1 mB_1_trap) rfl rfl rfl (by decide +kernel) ⟨Nat.le_of_ble_eq_true rfl, Nat.le_of_ble_eq_true rfl⟩) hK hP hD hS hZ rfl hl.1 rfl (Nat.le_of_ble_eq_true rfl) dX1_reach_32 ⟨Nat.zero_le _, Nat.zero_le _⟩ (fun z9 ez9 H locs hP hD hS => ?_)
        have hP : va_P (dC, dI) vwCl (rW cI h0 qme0 qre1 z9) H := hP
        have hD : va_D (rA h0 qme0 qre1 s.heap.size) (rW cI h0 qme0 qre1 z9) := hD
        refine lv_iconst (v := 0) hx hb dX1_reach_35 (by decide) ?_
        exact rIret (v := 0) (u := z9) hx hb hr hlocks (by subst ez9 ex1; exact (((if_neg c2).trans ((if_neg c7).trans ((if_neg c8).trans rfl)))).symm) hK hP hD hS dX1_reach_36
      · refine lv_iconst (v := 4) hx hb dX1_reach_25 (by decide) ?_
        refine lv_goto (tgt := 31) hx hb dX1_reach_26 (by decide) ?_
        refine lv_iload_n hx hb dX1_reach_31 rfl (lv_at hl 1 rfl) ?_
        refine rMv (As := [.int 4, .int p1]) (rest := []) (f := r_trap st (4 : Int32) p1) ⟨hx, hb, hml, hown, hts⟩ (cr_trap l dC dI cI h0 qme0 qre1 tN tB H.size st (4 : Int32) p1) (cwV 2 hts (gV mL_1_93 mI_1_trap mX_1_trap mN_1 mB_1_trap) rfl rfl rfl (by decide +kernel) ⟨Nat.le_of_ble_eq_true rfl, Nat.le_of_ble_eq_true rfl⟩) hK hP hD hS hZ rfl hl.1 rfl (Nat.le_of_ble_eq_true rfl) dX1_reach_32 ⟨Nat.zero_le _, Nat.zero_le _⟩ (fun z10 ez10 H locs hP hD hS => ?_)
        have hP : va_P (dC, dI) vwCl (rW cI h0 qme0 qre1 z10) H := hP
        have hD : va_D (rA h0 qme0 qre1 s.heap.size) (rW cI h0 qme0 qre1 z10) := hD
        refine lv_iconst (v := 0) hx hb dX1_reach_35 (by decide) ?_
        exact rIret (v := 0) (u := z10) hx hb hr hlocks (by subst ez10 ex1; exact (((if_neg c2).trans ((if_neg c7).trans ((if_pos c8).trans rfl)))).symm) hK hP hD hS dX1_reach_36
    · refine lv_iconst (v := 0) hx hb dX1_reach_16 (by decide) ?_
      refine lv_goto (tgt := 31) hx hb dX1_reach_17 (by decide) ?_
      refine lv_iload_n hx hb dX1_reach_31 rfl (lv_at hl 1 rfl) ?_
      refine rMv (As := [.int 0, .int p1]) (rest := []) (f := r_trap st (0 : Int32) p1) ⟨hx, hb, hml, hown, hts⟩ (cr_trap l dC dI cI h0 qme0 qre1 tN tB H.size st (0 : Int32) p1) (cwV 2 hts (gV mL_1_93 mI_1_trap mX_1_trap mN_1 mB_1_trap) rfl rfl rfl (by decide +kernel) ⟨Nat.le_of_ble_eq_true rfl, Nat.le_of_ble_eq_true rfl⟩) hK hP hD hS hZ rfl hl.1 rfl (Nat.le_of_ble_eq_true rfl) dX1_reach_32 ⟨Nat.zero_le _, Nat.zero_le _⟩ (fun z11 ez11 H locs hP hD hS => ?_)
      have hP : va_P (dC, dI) vwCl (rW cI h0 qme0 qre1 z11) H := hP
      have hD : va_D (rA h0 qme0 qre1 s.heap.size) (rW cI h0 qme0 qre1 z11) := hD
      refine lv_iconst (v := 0) hx hb dX1_reach_35 (by decide) ?_
      exact rIret (v := 0) (u := z11) hx hb hr hlocks (by subst ez11 ex1; exact (((if_neg c2).trans ((if_pos c7).trans rfl))).symm) hK hP hD hS dX1_reach_36
theorem r_trapT (st : RS) (a b : Int32) : (r_trap st a b).2.2.2.2.2.2.2.2.2.2.2.2.2.2.2.1 = 1 := by
  unfold r_trap
  dsimp only
  split <;> rfl
theorem r_in3 (st : RS) (a b c : Int32) (h : (r_reach st a b c).2.2.2.2.2.2.2.2.2.2.2.2.2.2.2.2.1 = 0) : vp_in ((r_reach st a b c).1 / (4 : Int32)) 65536 := by
  unfold r_reach at h ⊢
  dsimp only at h ⊢
  by_cases h1 : (r_bits a (0 : Int32) (1 : Int32) - r_bits a (0 : Int32) (1 : Int32) / b * b) = 0
  · rw [if_pos h1] at h ⊢
    by_cases h2 : (r_translated st a c).2.2.2.2.2.2.2.2.2.2.2.2.2.2.2.2.2.2 < 0
    · rw [if_pos h2] at h ⊢
      exact r_in1 (r_trl _ _ _ h2)
    · rw [if_neg h2] at h
      dsimp only at h
      rw [r_trapT] at h
      exact absurd h (by decide)
  · rw [if_neg h1] at h
    by_cases h2 : c = 0
    · rw [if_pos h2] at h
      dsimp only at h
      rw [r_trapT] at h
      exact absurd h (by decide)
    · rw [if_neg h2] at h
      by_cases h3 : c = (1 : Int32)
      · rw [if_pos h3] at h
        dsimp only at h
        rw [r_trapT] at h
        exact absurd h (by decide)
      · rw [if_neg h3] at h
        dsimp only at h
        rw [r_trapT] at h
        exact absurd h (by decide)

def r_set (st : RS) (p1 : Int32) (p2 : Int32) : RS :=
  if p1 = 0 then
    (st.1, st.2.1, upd st.2.2.1 p1.toNatClampNeg (0 : Int32), st.2.2.2.1, st.2.2.2.2.1, st.2.2.2.2.2.1, st.2.2.2.2.2.2.1, st.2.2.2.2.2.2.2.1, st.2.2.2.2.2.2.2.2.1, st.2.2.2.2.2.2.2.2.2.1, st.2.2.2.2.2.2.2.2.2.2.1, st.2.2.2.2.2.2.2.2.2.2.2.1, st.2.2.2.2.2.2.2.2.2.2.2.2.1, st.2.2.2.2.2.2.2.2.2.2.2.2.2.1, st.2.2.2.2.2.2.2.2.2.2.2.2.2.2.1, st.2.2.2.2.2.2.2.2.2.2.2.2.2.2.2.1, st.2.2.2.2.2.2.2.2.2.2.2.2.2.2.2.2.1, st.2.2.2.2.2.2.2.2.2.2.2.2.2.2.2.2.2)
  else
    (st.1, st.2.1, upd st.2.2.1 p1.toNatClampNeg p2, st.2.2.2.1, st.2.2.2.2.1, st.2.2.2.2.2.1, st.2.2.2.2.2.2.1, st.2.2.2.2.2.2.2.1, st.2.2.2.2.2.2.2.2.1, st.2.2.2.2.2.2.2.2.2.1, st.2.2.2.2.2.2.2.2.2.2.1, st.2.2.2.2.2.2.2.2.2.2.2.1, st.2.2.2.2.2.2.2.2.2.2.2.2.1, st.2.2.2.2.2.2.2.2.2.2.2.2.2.1, st.2.2.2.2.2.2.2.2.2.2.2.2.2.2.1, st.2.2.2.2.2.2.2.2.2.2.2.2.2.2.2.1, st.2.2.2.2.2.2.2.2.2.2.2.2.2.2.2.2.1, st.2.2.2.2.2.2.2.2.2.2.2.2.2.2.2.2.2)
set_option maxHeartbeats 4000000 in
set_option maxRecDepth 100000 in
theorem cr_set (l : Launch) (dC : Nat → ClassId) (dI : Nat → Nat → Nat) (cI h0 qme0 qre1 tN tB : Nat) (sz : Nat) (st : RS) (p1 : Int32) (p2 : Int32) (hp1 : vp_in p1 32)  : Met l yX1_set (.code yX1_set cX1_set 3 none :: gBIG) ({ frames := 0, cells := 0, slots := 0, locals := 0 }) (va_Pc [.ref h0, .int p1, .int p2] (rPre dC dI cI h0 qme0 qre1 tN tB sz st)) (va_Qv (fun v => v = r_set st p1 p2) (rB dC dI cI h0 qme0 qre1 (rA h0 qme0 qre1 sz)) (rA h0 qme0 qre1 sz)) 0 0 (rA h0 qme0 qre1 sz) := by
  refine Met.ofW (cc := cX1_set) (maxL := 3) (ret := none) (by decide) rfl ?_
  intro p e s m args below meth c s₁ B hml hv
  obtain ⟨rfl, hsz, hP, hK, hD0, hZ⟩ := hv
  have hx := B.exec
  have hb := B.bytes
  have hr := B.returns
  have hts : ∀ w ∈ gBIG, w.before _ s = true := fun w h => atoms_spec (ws := (.code yX1_set cX1_set 3 none :: gBIG)) B.pre w (List.mem_cons_of_mem _ h)
  have hown : s.vm.findClass "PagedHartModel" = some m.cls := findClass_of_methodNamed B.named
  have hlocks := B.notSynchronized
  subst hsz
  have hD : va_D (rA h0 qme0 qre1 s.heap.size) (rW cI h0 qme0 qre1 st) := rD hD0
  have hS : va_S (rA h0 qme0 qre1 s.heap.size) s.heap s.heap [] := va_S.rf
  have hP : va_P (dC, dI) vwCl (rW cI h0 qme0 qre1 st) s.heap := hP
  have hl := lv_entry ([.ref h0, .int p1, .int p2]) (n := 3) (Nat.le_of_ble_eq_true rfl)
  rw [lg_entry_eq]
  generalize (lg_sl ([.ref h0, .int p1, .int p2]) ++ List.replicate (3 - (lg_sl ([.ref h0, .int p1, .int p2])).length) Slot.unset).toArray = ls at hl ⊢
  refine jgo (P := fun H locs => va_P (dC, dI) vwCl (rW cI h0 qme0 qre1 st) H ∧ va_S (rA h0 qme0 qre1 s.heap.size) s.heap H locs) ⟨hP, hS⟩ (fun H locs hPS => ?_)
  obtain ⟨hP, hS⟩ := hPS
  have hl : lv_has ls 3 [(0, .ref h0), (1, .int p1), (2, .int p2)] := hl
  refine lv_aload_n hx hb dX1_set_0 rfl (lv_at hl 0 rfl) ?_
  refine va_get (D := (dC, dI)) (ci := 1) (v := .ref qre1) (C := "PagedHartModel") (T := TX1) (N := 18) hx hb hts mU1 hown hK hP 0 rfl rfl 2 (by decide) (hts _ mF_1_14) (fun _ h9 => h9) rfl dX1_set_1 ?_
  refine lv_iload_n hx hb dX1_set_4 rfl (lv_at hl 1 rfl) ?_
  refine lv_iload_n hx hb dX1_set_5 rfl (lv_at hl 1 rfl) ?_
  refine lv_if_ne (tgt := 13) hx hb dX1_set_6 (by decide) (fun c1 => ?_) (fun c1 => ?_)
  · refine lv_iload_n hx hb dX1_set_13 rfl (lv_at hl 2 rfl) ?_
    refine va_iast (D := (dC, dI)) hx hb hK hP hD hS 2 0 rfl rfl hp1 dX1_set_14 (fun H locs hP hD hS => ?_)
    have hP : va_P (dC, dI) vwCl (rW cI h0 qme0 qre1 (st.1, st.2.1, upd st.2.2.1 p1.toNatClampNeg p2, st.2.2.2.1, st.2.2.2.2.1, st.2.2.2.2.2.1, st.2.2.2.2.2.2.1, st.2.2.2.2.2.2.2.1, st.2.2.2.2.2.2.2.2.1, st.2.2.2.2.2.2.2.2.2.1, st.2.2.2.2.2.2.2.2.2.2.1, st.2.2.2.2.2.2.2.2.2.2.2.1, st.2.2.2.2.2.2.2.2.2.2.2.2.1, st.2.2.2.2.2.2.2.2.2.2.2.2.2.1, st.2.2.2.2.2.2.2.2.2.2.2.2.2.2.1, st.2.2.2.2.2.2.2.2.2.2.2.2.2.2.2.1, st.2.2.2.2.2.2.2.2.2.2.2.2.2.2.2.2.1, st.2.2.2.2.2.2.2.2.2.2.2.2.2.2.2.2.2)) H := hP
    have hD : va_D (rA h0 qme0 qre1 s.heap.size) (rW cI h0 qme0 qre1 (st.1, st.2.1, upd st.2.2.1 p1.toNatClampNeg p2, st.2.2.2.1, st.2.2.2.2.1, st.2.2.2.2.2.1, st.2.2.2.2.2.2.1, st.2.2.2.2.2.2.2.1, st.2.2.2.2.2.2.2.2.1, st.2.2.2.2.2.2.2.2.2.1, st.2.2.2.2.2.2.2.2.2.2.1, st.2.2.2.2.2.2.2.2.2.2.2.1, st.2.2.2.2.2.2.2.2.2.2.2.2.1, st.2.2.2.2.2.2.2.2.2.2.2.2.2.1, st.2.2.2.2.2.2.2.2.2.2.2.2.2.2.1, st.2.2.2.2.2.2.2.2.2.2.2.2.2.2.2.1, st.2.2.2.2.2.2.2.2.2.2.2.2.2.2.2.2.1, st.2.2.2.2.2.2.2.2.2.2.2.2.2.2.2.2.2)) := hD
    exact rVret (u := (st.1, st.2.1, upd st.2.2.1 p1.toNatClampNeg p2, st.2.2.2.1, st.2.2.2.2.1, st.2.2.2.2.2.1, st.2.2.2.2.2.2.1, st.2.2.2.2.2.2.2.1, st.2.2.2.2.2.2.2.2.1, st.2.2.2.2.2.2.2.2.2.1, st.2.2.2.2.2.2.2.2.2.2.1, st.2.2.2.2.2.2.2.2.2.2.2.1, st.2.2.2.2.2.2.2.2.2.2.2.2.1, st.2.2.2.2.2.2.2.2.2.2.2.2.2.1, st.2.2.2.2.2.2.2.2.2.2.2.2.2.2.1, st.2.2.2.2.2.2.2.2.2.2.2.2.2.2.2.1, st.2.2.2.2.2.2.2.2.2.2.2.2.2.2.2.2.1, st.2.2.2.2.2.2.2.2.2.2.2.2.2.2.2.2.2)) hx hb hr hlocks (by exact (((if_neg c1).trans rfl)).symm) hK hP hD hS dX1_set_15
  · refine lv_iconst (v := 0) hx hb dX1_set_9 (by decide) ?_
    refine lv_goto (tgt := 14) hx hb dX1_set_10 (by decide) ?_
    refine va_iast (D := (dC, dI)) hx hb hK hP hD hS 2 0 rfl rfl hp1 dX1_set_14 (fun H locs hP hD hS => ?_)
    have hP : va_P (dC, dI) vwCl (rW cI h0 qme0 qre1 (st.1, st.2.1, upd st.2.2.1 p1.toNatClampNeg (0 : Int32), st.2.2.2.1, st.2.2.2.2.1, st.2.2.2.2.2.1, st.2.2.2.2.2.2.1, st.2.2.2.2.2.2.2.1, st.2.2.2.2.2.2.2.2.1, st.2.2.2.2.2.2.2.2.2.1, st.2.2.2.2.2.2.2.2.2.2.1, st.2.2.2.2.2.2.2.2.2.2.2.1, st.2.2.2.2.2.2.2.2.2.2.2.2.1, st.2.2.2.2.2.2.2.2.2.2.2.2.2.1, st.2.2.2.2.2.2.2.2.2.2.2.2.2.2.1, st.2.2.2.2.2.2.2.2.2.2.2.2.2.2.2.1, st.2.2.2.2.2.2.2.2.2.2.2.2.2.2.2.2.1, st.2.2.2.2.2.2.2.2.2.2.2.2.2.2.2.2.2)) H := hP
    have hD : va_D (rA h0 qme0 qre1 s.heap.size) (rW cI h0 qme0 qre1 (st.1, st.2.1, upd st.2.2.1 p1.toNatClampNeg (0 : Int32), st.2.2.2.1, st.2.2.2.2.1, st.2.2.2.2.2.1, st.2.2.2.2.2.2.1, st.2.2.2.2.2.2.2.1, st.2.2.2.2.2.2.2.2.1, st.2.2.2.2.2.2.2.2.2.1, st.2.2.2.2.2.2.2.2.2.2.1, st.2.2.2.2.2.2.2.2.2.2.2.1, st.2.2.2.2.2.2.2.2.2.2.2.2.1, st.2.2.2.2.2.2.2.2.2.2.2.2.2.1, st.2.2.2.2.2.2.2.2.2.2.2.2.2.2.1, st.2.2.2.2.2.2.2.2.2.2.2.2.2.2.2.1, st.2.2.2.2.2.2.2.2.2.2.2.2.2.2.2.2.1, st.2.2.2.2.2.2.2.2.2.2.2.2.2.2.2.2.2)) := hD
    exact rVret (u := (st.1, st.2.1, upd st.2.2.1 p1.toNatClampNeg (0 : Int32), st.2.2.2.1, st.2.2.2.2.1, st.2.2.2.2.2.1, st.2.2.2.2.2.2.1, st.2.2.2.2.2.2.2.1, st.2.2.2.2.2.2.2.2.1, st.2.2.2.2.2.2.2.2.2.1, st.2.2.2.2.2.2.2.2.2.2.1, st.2.2.2.2.2.2.2.2.2.2.2.1, st.2.2.2.2.2.2.2.2.2.2.2.2.1, st.2.2.2.2.2.2.2.2.2.2.2.2.2.1, st.2.2.2.2.2.2.2.2.2.2.2.2.2.2.1, st.2.2.2.2.2.2.2.2.2.2.2.2.2.2.2.1, st.2.2.2.2.2.2.2.2.2.2.2.2.2.2.2.2.1, st.2.2.2.2.2.2.2.2.2.2.2.2.2.2.2.2.2)) hx hb hr hlocks (by exact (((if_pos c1).trans rfl)).symm) hK hP hD hS dX1_set_15

def r_jump (st : RS) (p1 : Int32) (p2 : Int32) : RS :=
  let x1 : Int32 := r_bits p1 (0 : Int32) (1 : Int32)
  if x1 = 0 then
    let z3 : RS := r_set st p2 (st.2.2.2.1 + (4 : Int32))
    (z3.1, z3.2.1, z3.2.2.1, z3.2.2.2.1, z3.2.2.2.2.1, z3.2.2.2.2.2.1, z3.2.2.2.2.2.2.1, z3.2.2.2.2.2.2.2.1, z3.2.2.2.2.2.2.2.2.1, z3.2.2.2.2.2.2.2.2.2.1, z3.2.2.2.2.2.2.2.2.2.2.1, z3.2.2.2.2.2.2.2.2.2.2.2.1, z3.2.2.2.2.2.2.2.2.2.2.2.2.1, z3.2.2.2.2.2.2.2.2.2.2.2.2.2.1, z3.2.2.2.2.2.2.2.2.2.2.2.2.2.2.1, z3.2.2.2.2.2.2.2.2.2.2.2.2.2.2.2.1, p1, z3.2.2.2.2.2.2.2.2.2.2.2.2.2.2.2.2.2)
  else
    let z4 : RS := r_trap st (0 : Int32) p1
    z4
set_option maxHeartbeats 4000000 in
set_option maxRecDepth 100000 in
theorem cr_jump (l : Launch) (dC : Nat → ClassId) (dI : Nat → Nat → Nat) (cI h0 qme0 qre1 tN tB : Nat) (sz : Nat) (st : RS) (p1 : Int32) (p2 : Int32) (hp2 : vp_in p2 32)  : Met l yX1_jump (.code yX1_jump cX1_jump 3 none :: gBIG) ({ frames := 3, cells := 0, slots := 0, locals := 64 }) (va_Pc [.ref h0, .int p1, .int p2] (rPre dC dI cI h0 qme0 qre1 tN tB sz st)) (va_Qv (fun v => v = r_jump st p1 p2) (rB dC dI cI h0 qme0 qre1 (rA h0 qme0 qre1 sz)) (rA h0 qme0 qre1 sz)) 0 0 (rA h0 qme0 qre1 sz) := by
  refine Met.ofW (cc := cX1_jump) (maxL := 3) (ret := none) (by decide) rfl ?_
  intro p e s m args below meth c s₁ B hml hv
  obtain ⟨rfl, hsz, hP, hK, hD0, hZ⟩ := hv
  have hx := B.exec
  have hb := B.bytes
  have hr := B.returns
  have hts : ∀ w ∈ gBIG, w.before _ s = true := fun w h => atoms_spec (ws := (.code yX1_jump cX1_jump 3 none :: gBIG)) B.pre w (List.mem_cons_of_mem _ h)
  have hown : s.vm.findClass "PagedHartModel" = some m.cls := findClass_of_methodNamed B.named
  have hlocks := B.notSynchronized
  subst hsz
  have hD : va_D (rA h0 qme0 qre1 s.heap.size) (rW cI h0 qme0 qre1 st) := rD hD0
  have hS : va_S (rA h0 qme0 qre1 s.heap.size) s.heap s.heap [] := va_S.rf
  have hP : va_P (dC, dI) vwCl (rW cI h0 qme0 qre1 st) s.heap := hP
  have hl := lv_entry ([.ref h0, .int p1, .int p2]) (n := 3) (Nat.le_of_ble_eq_true rfl)
  rw [lg_entry_eq]
  generalize (lg_sl ([.ref h0, .int p1, .int p2]) ++ List.replicate (3 - (lg_sl ([.ref h0, .int p1, .int p2])).length) Slot.unset).toArray = ls at hl ⊢
  refine jgo (P := fun H locs => va_P (dC, dI) vwCl (rW cI h0 qme0 qre1 st) H ∧ va_S (rA h0 qme0 qre1 s.heap.size) s.heap H locs) ⟨hP, hS⟩ (fun H locs hPS => ?_)
  obtain ⟨hP, hS⟩ := hPS
  have hl : lv_has ls 3 [(0, .ref h0), (1, .int p1), (2, .int p2)] := hl
  refine lv_iload_n hx hb dX1_jump_0 rfl (lv_at hl 1 rfl) ?_
  refine lv_iconst (v := 0) hx hb dX1_jump_1 (by decide) ?_
  refine lv_iconst (v := 1) hx hb dX1_jump_2 (by decide) ?_
  refine W.callR (W.runS (As := [.int p1, .int 0, .int 1]) (rest := []) ⟨hx, hb, hml, hown, hts⟩ (cr_bits l p1 (0 : Int32) (1 : Int32)) (cwS 3 hts (gS mL_1_46 mS_1_bits mN_1 mB_1_bits) rfl rfl rfl (by decide +kernel) ⟨Nat.le_of_ble_eq_true rfl, Nat.le_of_ble_eq_true rfl⟩) ⟨jblind, fun _ _ _ => ⟨rfl, trivial⟩⟩ rfl rfl hl.1 rfl (lv_room (Nat.le_of_ble_eq_true rfl)) dX1_jump_3 ⟨Nat.zero_le _, Nat.zero_le _⟩) ?_
  refine W.eq (g2 := F0 m 6 ls (.int (r_bits p1 (0 : Int32) (1 : Int32)) :: [])) rfl ?_
  refine lv_topi (fun x1 ex1 => ?_)
  refine lv_if_eq (tgt := 16) hx hb dX1_jump_6 (by decide) (fun c2 => ?_) (fun c2 => ?_)
  · refine lv_aload_n hx hb dX1_jump_16 rfl (lv_at hl 0 rfl) ?_
    refine lv_iload_n hx hb dX1_jump_17 rfl (lv_at hl 2 rfl) ?_
    refine lv_aload_n hx hb dX1_jump_18 rfl (lv_at hl 0 rfl) ?_
    refine va_get (D := (dC, dI)) (ci := 1) (v := .int st.2.2.2.1) (C := "PagedHartModel") (T := TX1) (N := 18) hx hb hts mU1 hown hK hP 0 rfl rfl 3 (by decide) (hts _ mF_1_75) (fun _ h9 => h9) rfl dX1_jump_19 ?_
    refine lv_iconst (v := 4) hx hb dX1_jump_22 (by decide) ?_
    refine lv_iadd hx hb dX1_jump_23 ?_
    refine rMv (As := [.int p2, .int (st.2.2.2.1 + (4 : Int32))]) (rest := []) (f := r_set st p2 (st.2.2.2.1 + (4 : Int32))) ⟨hx, hb, hml, hown, hts⟩ (cr_set l dC dI cI h0 qme0 qre1 tN tB H.size st p2 (st.2.2.2.1 + (4 : Int32)) hp2) (cwV 2 hts (gV mL_1_112 mI_1_set mX_1_set mN_1 mB_1_set) rfl rfl rfl (by decide +kernel) ⟨Nat.le_of_ble_eq_true rfl, Nat.le_of_ble_eq_true rfl⟩) hK hP hD hS hZ rfl hl.1 rfl (Nat.le_of_ble_eq_true rfl) dX1_jump_24 ⟨Nat.zero_le _, Nat.zero_le _⟩ (fun z3 ez3 H locs hP hD hS => ?_)
    have hP : va_P (dC, dI) vwCl (rW cI h0 qme0 qre1 z3) H := hP
    have hD : va_D (rA h0 qme0 qre1 s.heap.size) (rW cI h0 qme0 qre1 z3) := hD
    refine lv_aload_n hx hb dX1_jump_27 rfl (lv_at hl 0 rfl) ?_
    refine lv_iload_n hx hb dX1_jump_28 rfl (lv_at hl 1 rfl) ?_
    refine va_put (D := (dC, dI)) (ci := 1) (v := .int p1) (ty := .int) (C := "PagedHartModel") (T := TX1) (N := 18) hx hb hts mU1 tyX1 tyX1_ok nmX1 hown hK hP hD hS 0 rfl rfl 16 (by decide) (hts _ mF_1_105) (fun _ h9 => h9) rfl (by decide +kernel) rfl rfl (Nat.le_of_ble_eq_true rfl) dX1_jump_29 (fun H locs hP hD hS => ?_)
    have hP : va_P (dC, dI) vwCl (rW cI h0 qme0 qre1 (z3.1, z3.2.1, z3.2.2.1, z3.2.2.2.1, z3.2.2.2.2.1, z3.2.2.2.2.2.1, z3.2.2.2.2.2.2.1, z3.2.2.2.2.2.2.2.1, z3.2.2.2.2.2.2.2.2.1, z3.2.2.2.2.2.2.2.2.2.1, z3.2.2.2.2.2.2.2.2.2.2.1, z3.2.2.2.2.2.2.2.2.2.2.2.1, z3.2.2.2.2.2.2.2.2.2.2.2.2.1, z3.2.2.2.2.2.2.2.2.2.2.2.2.2.1, z3.2.2.2.2.2.2.2.2.2.2.2.2.2.2.1, z3.2.2.2.2.2.2.2.2.2.2.2.2.2.2.2.1, p1, z3.2.2.2.2.2.2.2.2.2.2.2.2.2.2.2.2.2)) H := hP
    have hD : va_D (rA h0 qme0 qre1 s.heap.size) (rW cI h0 qme0 qre1 (z3.1, z3.2.1, z3.2.2.1, z3.2.2.2.1, z3.2.2.2.2.1, z3.2.2.2.2.2.1, z3.2.2.2.2.2.2.1, z3.2.2.2.2.2.2.2.1, z3.2.2.2.2.2.2.2.2.1, z3.2.2.2.2.2.2.2.2.2.1, z3.2.2.2.2.2.2.2.2.2.2.1, z3.2.2.2.2.2.2.2.2.2.2.2.1, z3.2.2.2.2.2.2.2.2.2.2.2.2.1, z3.2.2.2.2.2.2.2.2.2.2.2.2.2.1, z3.2.2.2.2.2.2.2.2.2.2.2.2.2.2.1, z3.2.2.2.2.2.2.2.2.2.2.2.2.2.2.2.1, p1, z3.2.2.2.2.2.2.2.2.2.2.2.2.2.2.2.2.2)) := hD
    exact rVret (u := (z3.1, z3.2.1, z3.2.2.1, z3.2.2.2.1, z3.2.2.2.2.1, z3.2.2.2.2.2.1, z3.2.2.2.2.2.2.1, z3.2.2.2.2.2.2.2.1, z3.2.2.2.2.2.2.2.2.1, z3.2.2.2.2.2.2.2.2.2.1, z3.2.2.2.2.2.2.2.2.2.2.1, z3.2.2.2.2.2.2.2.2.2.2.2.1, z3.2.2.2.2.2.2.2.2.2.2.2.2.1, z3.2.2.2.2.2.2.2.2.2.2.2.2.2.1, z3.2.2.2.2.2.2.2.2.2.2.2.2.2.2.1, z3.2.2.2.2.2.2.2.2.2.2.2.2.2.2.2.1, p1, z3.2.2.2.2.2.2.2.2.2.2.2.2.2.2.2.2.2)) hx hb hr hlocks (by subst ez3 ex1; exact (((if_pos c2).trans rfl)).symm) hK hP hD hS dX1_jump_32
  · refine lv_aload_n hx hb dX1_jump_9 rfl (lv_at hl 0 rfl) ?_
    refine lv_iconst (v := 0) hx hb dX1_jump_10 (by decide) ?_
    refine lv_iload_n hx hb dX1_jump_11 rfl (lv_at hl 1 rfl) ?_
    refine rMv (As := [.int 0, .int p1]) (rest := []) (f := r_trap st (0 : Int32) p1) ⟨hx, hb, hml, hown, hts⟩ (cr_trap l dC dI cI h0 qme0 qre1 tN tB H.size st (0 : Int32) p1) (cwV 2 hts (gV mL_1_93 mI_1_trap mX_1_trap mN_1 mB_1_trap) rfl rfl rfl (by decide +kernel) ⟨Nat.le_of_ble_eq_true rfl, Nat.le_of_ble_eq_true rfl⟩) hK hP hD hS hZ rfl hl.1 rfl (Nat.le_of_ble_eq_true rfl) dX1_jump_12 ⟨Nat.zero_le _, Nat.zero_le _⟩ (fun z4 ez4 H locs hP hD hS => ?_)
    have hP : va_P (dC, dI) vwCl (rW cI h0 qme0 qre1 z4) H := hP
    have hD : va_D (rA h0 qme0 qre1 s.heap.size) (rW cI h0 qme0 qre1 z4) := hD
    exact rVret (u := z4) hx hb hr hlocks (by subst ez4 ex1; exact (((if_neg c2).trans rfl)).symm) hK hP hD hS dX1_jump_15

def r_branch (st : RS) (p1 : Int32) (p2 : Int32) (p3 : Int32) (p4 : Int32) : RS :=
  if p2 = (2 : Int32) then
    let z2 : RS := r_trap st (2 : Int32) p1
    z2
  else
    if p2 = (3 : Int32) then
      let z41 : RS := r_trap st (2 : Int32) p1
      z41
    else
      if (2 : Int32) ≤ p2 then
        if (6 : Int32) ≤ p2 then
          let y6 : Int64 := r_plain p3
          let y7 : Int64 := r_plain p4
          if 0 ≤ (lg_cmp y6 y7) then
            if (p2 - p2 / (2 : Int32) * (2 : Int32)) = 0 then
              st
            else
              let x11 : Int32 := r_near p1
              let z12 : RS := r_jump st (st.2.2.2.1 + x11) (0 : Int32)
              z12
          else
            if (p2 - p2 / (2 : Int32) * (2 : Int32)) = 0 then
              let x17 : Int32 := r_near p1
              let z18 : RS := r_jump st (st.2.2.2.1 + x17) (0 : Int32)
              z18
            else
              st
        else
          if p4 ≤ p3 then
            if (p2 - p2 / (2 : Int32) * (2 : Int32)) = 0 then
              st
            else
              let x22 : Int32 := r_near p1
              let z23 : RS := r_jump st (st.2.2.2.1 + x22) (0 : Int32)
              z23
          else
            if (p2 - p2 / (2 : Int32) * (2 : Int32)) = 0 then
              let x28 : Int32 := r_near p1
              let z29 : RS := r_jump st (st.2.2.2.1 + x28) (0 : Int32)
              z29
            else
              st
      else
        if p3 = p4 then
          if (p2 - p2 / (2 : Int32) * (2 : Int32)) = 0 then
            let x39 : Int32 := r_near p1
            let z40 : RS := r_jump st (st.2.2.2.1 + x39) (0 : Int32)
            z40
          else
            st
        else
          if (p2 - p2 / (2 : Int32) * (2 : Int32)) = 0 then
            st
          else
            let x33 : Int32 := r_near p1
            let z34 : RS := r_jump st (st.2.2.2.1 + x33) (0 : Int32)
            z34
set_option maxHeartbeats 4000000 in
set_option maxRecDepth 100000 in
theorem cr_branch (l : Launch) (dC : Nat → ClassId) (dI : Nat → Nat → Nat) (cI h0 qme0 qre1 tN tB : Nat) (sz : Nat) (st : RS) (p1 : Int32) (p2 : Int32) (p3 : Int32) (p4 : Int32)  : Met l yX1_branch (.code yX1_branch cX1_branch 6 none :: gBIG) ({ frames := 4, cells := 0, slots := 0, locals := 86 }) (va_Pc [.ref h0, .int p1, .int p2, .int p3, .int p4] (rPre dC dI cI h0 qme0 qre1 tN tB sz st)) (va_Qv (fun v => v = r_branch st p1 p2 p3 p4) (rB dC dI cI h0 qme0 qre1 (rA h0 qme0 qre1 sz)) (rA h0 qme0 qre1 sz)) 0 0 (rA h0 qme0 qre1 sz) := by
  refine Met.ofW (cc := cX1_branch) (maxL := 6) (ret := none) (by decide) rfl ?_
  intro p e s m args below meth c s₁ B hml hv
  obtain ⟨rfl, hsz, hP, hK, hD0, hZ⟩ := hv
  have hx := B.exec
  have hb := B.bytes
  have hr := B.returns
  have hts : ∀ w ∈ gBIG, w.before _ s = true := fun w h => atoms_spec (ws := (.code yX1_branch cX1_branch 6 none :: gBIG)) B.pre w (List.mem_cons_of_mem _ h)
  have hown : s.vm.findClass "PagedHartModel" = some m.cls := findClass_of_methodNamed B.named
  have hlocks := B.notSynchronized
  subst hsz
  have hD : va_D (rA h0 qme0 qre1 s.heap.size) (rW cI h0 qme0 qre1 st) := rD hD0
  have hS : va_S (rA h0 qme0 qre1 s.heap.size) s.heap s.heap [] := va_S.rf
  have hP : va_P (dC, dI) vwCl (rW cI h0 qme0 qre1 st) s.heap := hP
  have hl := lv_entry ([.ref h0, .int p1, .int p2, .int p3, .int p4]) (n := 6) (Nat.le_of_ble_eq_true rfl)
  rw [lg_entry_eq]
  generalize (lg_sl ([.ref h0, .int p1, .int p2, .int p3, .int p4]) ++ List.replicate (6 - (lg_sl ([.ref h0, .int p1, .int p2, .int p3, .int p4])).length) Slot.unset).toArray = ls at hl ⊢
  refine jgo (P := fun H locs => va_P (dC, dI) vwCl (rW cI h0 qme0 qre1 st) H ∧ va_S (rA h0 qme0 qre1 s.heap.size) s.heap H locs) ⟨hP, hS⟩ (fun H locs hPS => ?_)
  obtain ⟨hP, hS⟩ := hPS
  have hl : lv_has ls 6 [(0, .ref h0), (1, .int p1), (2, .int p2), (3, .int p3), (4, .int p4)] := hl
  refine lv_iload_n hx hb dX1_branch_0 rfl (lv_at hl 2 rfl) ?_
  refine lv_iconst (v := 2) hx hb dX1_branch_1 (by decide) ?_
  refine lv_icmp_eq (tgt := 10) hx hb dX1_branch_2 (by decide) (fun c1 => ?_) (fun c1 => ?_)
  · refine lv_aload_n hx hb dX1_branch_10 rfl (lv_at hl 0 rfl) ?_
    refine lv_iconst (v := 2) hx hb dX1_branch_11 (by decide) ?_
    refine lv_iload_n hx hb dX1_branch_12 rfl (lv_at hl 1 rfl) ?_
    refine rMv (As := [.int 2, .int p1]) (rest := []) (f := r_trap st (2 : Int32) p1) ⟨hx, hb, hml, hown, hts⟩ (cr_trap l dC dI cI h0 qme0 qre1 tN tB H.size st (2 : Int32) p1) (cwV 2 hts (gV mL_1_93 mI_1_trap mX_1_trap mN_1 mB_1_trap) rfl rfl rfl (by decide +kernel) ⟨Nat.le_of_ble_eq_true rfl, Nat.le_of_ble_eq_true rfl⟩) hK hP hD hS hZ rfl hl.1 rfl (Nat.le_of_ble_eq_true rfl) dX1_branch_13 ⟨Nat.zero_le _, Nat.zero_le _⟩ (fun z2 ez2 H locs hP hD hS => ?_)
    have hP : va_P (dC, dI) vwCl (rW cI h0 qme0 qre1 z2) H := hP
    have hD : va_D (rA h0 qme0 qre1 s.heap.size) (rW cI h0 qme0 qre1 z2) := hD
    exact rVret (u := z2) hx hb hr hlocks (by subst ez2; exact (((if_pos c1).trans rfl)).symm) hK hP hD hS dX1_branch_16
  · refine lv_iload_n hx hb dX1_branch_5 rfl (lv_at hl 2 rfl) ?_
    refine lv_iconst (v := 3) hx hb dX1_branch_6 (by decide) ?_
    refine lv_icmp_ne (tgt := 17) hx hb dX1_branch_7 (by decide) (fun c3 => ?_) (fun c3 => ?_)
    · refine lv_iload_n hx hb dX1_branch_17 rfl (lv_at hl 2 rfl) ?_
      refine lv_iconst (v := 2) hx hb dX1_branch_18 (by decide) ?_
      refine lv_icmp_ge (tgt := 36) hx hb dX1_branch_19 (by decide) (fun c4 => ?_) (fun c4 => ?_)
      · refine lv_iload_n hx hb dX1_branch_36 rfl (lv_at hl 2 rfl) ?_
        refine lv_bipush (v := 6) hx hb dX1_branch_37 (by decide) ?_
        refine lv_icmp_ge (tgt := 56) hx hb dX1_branch_39 (by decide) (fun c5 => ?_) (fun c5 => ?_)
        · refine lv_iload_n hx hb dX1_branch_56 rfl (lv_at hl 3 rfl) ?_
          refine jcallRl (W.runS (As := [.int p3]) (rest := []) ⟨hx, hb, hml, hown, hts⟩ (cr_plain l p3) (cwS 1 hts (gS mL_1_36 mS_1_plain mN_1 mB_1_plain) rfl rfl rfl (by decide +kernel) ⟨Nat.le_of_ble_eq_true rfl, Nat.le_of_ble_eq_true rfl⟩) ⟨jblind, fun _ _ _ => ⟨rfl, trivial⟩⟩ rfl rfl hl.1 rfl (lv_room (Nat.le_of_ble_eq_true rfl)) dX1_branch_57 ⟨Nat.zero_le _, Nat.zero_le _⟩) ?_
          refine lv_topl (fun y6 ey6 => ?_)
          refine lv_iload hx hb dX1_branch_60 (lv_at hl 4 rfl) ?_
          refine jcallRl (W.runS (As := [.int p4]) (rest := [.long y6]) ⟨hx, hb, hml, hown, hts⟩ (cr_plain l p4) (cwS 1 hts (gS mL_1_36 mS_1_plain mN_1 mB_1_plain) rfl rfl rfl (by decide +kernel) ⟨Nat.le_of_ble_eq_true rfl, Nat.le_of_ble_eq_true rfl⟩) ⟨jblind, fun _ _ _ => ⟨rfl, trivial⟩⟩ rfl rfl hl.1 rfl (lv_room (Nat.le_of_ble_eq_true rfl)) dX1_branch_62 ⟨Nat.zero_le _, Nat.zero_le _⟩) ?_
          refine lv_topl (fun y7 ey7 => ?_)
          refine W.lcmp hx hb dX1_branch_65 ?_
          refine lv_if_ge (tgt := 73) hx hb dX1_branch_66 (by decide) (fun c8 => ?_) (fun c8 => ?_)
          · refine lv_iconst (v := 0) hx hb dX1_branch_73 (by decide) ?_
            refine lv_istore (lv' := [(5, .int 0), (0, .ref h0), (1, .int p1), (2, .int p2), (3, .int p3), (4, .int p4)]) hx hb dX1_branch_74 hl (by decide) rfl (fun ls hl => ?_)
            refine lv_iload hx hb dX1_branch_76 (lv_at hl 0 rfl) ?_
            refine lv_iload_n hx hb dX1_branch_78 rfl (lv_at hl 3 rfl) ?_
            refine lv_iconst (v := 2) hx hb dX1_branch_79 (by decide) ?_
            refine lv_irem hx hb dX1_branch_80 (by decide) ?_
            refine lv_if_ne (tgt := 88) hx hb dX1_branch_81 (by decide) (fun c9 => ?_) (fun c9 => ?_)
            · refine lv_iconst (v := 0) hx hb dX1_branch_88 (by decide) ?_
              refine lv_icmp_ne (tgt := 106) hx hb dX1_branch_89 (by decide) (fun c10 => ?_) (fun c10 => ?_)
              · exact (c10 (by decide)).elim
              · refine lv_aload_n hx hb dX1_branch_92 rfl (lv_at hl 1 rfl) ?_
                refine lv_aload_n hx hb dX1_branch_93 rfl (lv_at hl 1 rfl) ?_
                refine va_get (D := (dC, dI)) (ci := 1) (v := .int st.2.2.2.1) (C := "PagedHartModel") (T := TX1) (N := 18) hx hb hts mU1 hown hK hP 0 rfl rfl 3 (by decide) (hts _ mF_1_75) (fun _ h9 => h9) rfl dX1_branch_94 ?_
                refine lv_iload_n hx hb dX1_branch_97 rfl (lv_at hl 2 rfl) ?_
                refine W.callR (W.runS (As := [.int p1]) (rest := [.int st.2.2.2.1, .ref h0]) ⟨hx, hb, hml, hown, hts⟩ (cr_near l p1) (cwS 1 hts (gS mL_1_142 mS_1_near mN_1 mB_1_near) rfl rfl rfl (by decide +kernel) ⟨Nat.le_of_ble_eq_true rfl, Nat.le_of_ble_eq_true rfl⟩) ⟨jblind, fun _ _ _ => ⟨rfl, trivial⟩⟩ rfl rfl hl.1 rfl (lv_room (Nat.le_of_ble_eq_true rfl)) dX1_branch_98 ⟨Nat.zero_le _, Nat.zero_le _⟩) ?_
                refine W.eq (g2 := F0 m 101 ls (.int (r_near p1) :: [.int st.2.2.2.1, .ref h0])) rfl ?_
                refine lv_topi (fun x11 ex11 => ?_)
                refine lv_iadd hx hb dX1_branch_101 ?_
                refine lv_iconst (v := 0) hx hb dX1_branch_102 (by decide) ?_
                refine rMv (As := [.int (st.2.2.2.1 + x11), .int 0]) (rest := []) (f := r_jump st (st.2.2.2.1 + x11) (0 : Int32)) ⟨hx, hb, hml, hown, hts⟩ (cr_jump l dC dI cI h0 qme0 qre1 tN tB H.size st (st.2.2.2.1 + x11) (0 : Int32) (jin (by decide))) (cwV 2 hts (gV mL_1_118 mI_1_jump mX_1_jump mN_1 mB_1_jump) rfl rfl rfl (by decide +kernel) ⟨Nat.le_of_ble_eq_true rfl, Nat.le_of_ble_eq_true rfl⟩) hK hP hD hS hZ rfl hl.1 rfl (Nat.le_of_ble_eq_true rfl) dX1_branch_103 ⟨Nat.zero_le _, Nat.zero_le _⟩ (fun z12 ez12 H locs hP hD hS => ?_)
                have hP : va_P (dC, dI) vwCl (rW cI h0 qme0 qre1 z12) H := hP
                have hD : va_D (rA h0 qme0 qre1 s.heap.size) (rW cI h0 qme0 qre1 z12) := hD
                exact rVret (u := z12) hx hb hr hlocks (by subst ez12 ex11 ey7 ey6; exact (((if_neg c1).trans ((if_neg c3).trans ((if_pos c4).trans ((if_pos c5).trans ((if_pos c8).trans ((if_neg c9).trans rfl))))))).symm) hK hP hD hS dX1_branch_106
            · refine lv_iconst (v := 1) hx hb dX1_branch_84 (by decide) ?_
              refine lv_goto (tgt := 89) hx hb dX1_branch_85 (by decide) ?_
              refine lv_icmp_ne (tgt := 106) hx hb dX1_branch_89 (by decide) (fun c13 => ?_) (fun c13 => ?_)
              · exact rVret (u := st) hx hb hr hlocks (by subst ey7 ey6; exact (((if_neg c1).trans ((if_neg c3).trans ((if_pos c4).trans ((if_pos c5).trans ((if_pos c8).trans ((if_pos c9).trans rfl))))))).symm) hK hP hD hS dX1_branch_106
              · exact absurd c13 (by decide)
          · refine lv_iconst (v := 1) hx hb dX1_branch_69 (by decide) ?_
            refine lv_goto (tgt := 74) hx hb dX1_branch_70 (by decide) ?_
            refine lv_istore (lv' := [(5, .int 1), (0, .ref h0), (1, .int p1), (2, .int p2), (3, .int p3), (4, .int p4)]) hx hb dX1_branch_74 hl (by decide) rfl (fun ls hl => ?_)
            refine lv_iload hx hb dX1_branch_76 (lv_at hl 0 rfl) ?_
            refine lv_iload_n hx hb dX1_branch_78 rfl (lv_at hl 3 rfl) ?_
            refine lv_iconst (v := 2) hx hb dX1_branch_79 (by decide) ?_
            refine lv_irem hx hb dX1_branch_80 (by decide) ?_
            refine lv_if_ne (tgt := 88) hx hb dX1_branch_81 (by decide) (fun c14 => ?_) (fun c14 => ?_)
            · refine lv_iconst (v := 0) hx hb dX1_branch_88 (by decide) ?_
              refine lv_icmp_ne (tgt := 106) hx hb dX1_branch_89 (by decide) (fun c15 => ?_) (fun c15 => ?_)
              · exact rVret (u := st) hx hb hr hlocks (by subst ey7 ey6; exact (((if_neg c1).trans ((if_neg c3).trans ((if_pos c4).trans ((if_pos c5).trans ((if_neg c8).trans ((if_neg c14).trans rfl))))))).symm) hK hP hD hS dX1_branch_106
              · exact absurd c15 (by decide)
            · refine lv_iconst (v := 1) hx hb dX1_branch_84 (by decide) ?_
              refine lv_goto (tgt := 89) hx hb dX1_branch_85 (by decide) ?_
              refine lv_icmp_ne (tgt := 106) hx hb dX1_branch_89 (by decide) (fun c16 => ?_) (fun c16 => ?_)
              · exact (c16 (by decide)).elim
              · refine lv_aload_n hx hb dX1_branch_92 rfl (lv_at hl 1 rfl) ?_
                refine lv_aload_n hx hb dX1_branch_93 rfl (lv_at hl 1 rfl) ?_
                refine va_get (D := (dC, dI)) (ci := 1) (v := .int st.2.2.2.1) (C := "PagedHartModel") (T := TX1) (N := 18) hx hb hts mU1 hown hK hP 0 rfl rfl 3 (by decide) (hts _ mF_1_75) (fun _ h9 => h9) rfl dX1_branch_94 ?_
                refine lv_iload_n hx hb dX1_branch_97 rfl (lv_at hl 2 rfl) ?_
                refine W.callR (W.runS (As := [.int p1]) (rest := [.int st.2.2.2.1, .ref h0]) ⟨hx, hb, hml, hown, hts⟩ (cr_near l p1) (cwS 1 hts (gS mL_1_142 mS_1_near mN_1 mB_1_near) rfl rfl rfl (by decide +kernel) ⟨Nat.le_of_ble_eq_true rfl, Nat.le_of_ble_eq_true rfl⟩) ⟨jblind, fun _ _ _ => ⟨rfl, trivial⟩⟩ rfl rfl hl.1 rfl (lv_room (Nat.le_of_ble_eq_true rfl)) dX1_branch_98 ⟨Nat.zero_le _, Nat.zero_le _⟩) ?_
                refine W.eq (g2 := F0 m 101 ls (.int (r_near p1) :: [.int st.2.2.2.1, .ref h0])) rfl ?_
                refine lv_topi (fun x17 ex17 => ?_)
                refine lv_iadd hx hb dX1_branch_101 ?_
                refine lv_iconst (v := 0) hx hb dX1_branch_102 (by decide) ?_
                refine rMv (As := [.int (st.2.2.2.1 + x17), .int 0]) (rest := []) (f := r_jump st (st.2.2.2.1 + x17) (0 : Int32)) ⟨hx, hb, hml, hown, hts⟩ (cr_jump l dC dI cI h0 qme0 qre1 tN tB H.size st (st.2.2.2.1 + x17) (0 : Int32) (jin (by decide))) (cwV 2 hts (gV mL_1_118 mI_1_jump mX_1_jump mN_1 mB_1_jump) rfl rfl rfl (by decide +kernel) ⟨Nat.le_of_ble_eq_true rfl, Nat.le_of_ble_eq_true rfl⟩) hK hP hD hS hZ rfl hl.1 rfl (Nat.le_of_ble_eq_true rfl) dX1_branch_103 ⟨Nat.zero_le _, Nat.zero_le _⟩ (fun z18 ez18 H locs hP hD hS => ?_)
                have hP : va_P (dC, dI) vwCl (rW cI h0 qme0 qre1 z18) H := hP
                have hD : va_D (rA h0 qme0 qre1 s.heap.size) (rW cI h0 qme0 qre1 z18) := hD
                exact rVret (u := z18) hx hb hr hlocks (by subst ez18 ex17 ey7 ey6; exact (((if_neg c1).trans ((if_neg c3).trans ((if_pos c4).trans ((if_pos c5).trans ((if_neg c8).trans ((if_pos c14).trans rfl))))))).symm) hK hP hD hS dX1_branch_106
        · refine lv_iload_n hx hb dX1_branch_42 rfl (lv_at hl 3 rfl) ?_
          refine lv_iload hx hb dX1_branch_43 (lv_at hl 4 rfl) ?_
          refine lv_icmp_ge (tgt := 52) hx hb dX1_branch_45 (by decide) (fun c19 => ?_) (fun c19 => ?_)
          · refine lv_iconst (v := 0) hx hb dX1_branch_52 (by decide) ?_
            refine lv_goto (tgt := 74) hx hb dX1_branch_53 (by decide) ?_
            refine lv_istore (lv' := [(5, .int 0), (0, .ref h0), (1, .int p1), (2, .int p2), (3, .int p3), (4, .int p4)]) hx hb dX1_branch_74 hl (by decide) rfl (fun ls hl => ?_)
            refine lv_iload hx hb dX1_branch_76 (lv_at hl 0 rfl) ?_
            refine lv_iload_n hx hb dX1_branch_78 rfl (lv_at hl 3 rfl) ?_
            refine lv_iconst (v := 2) hx hb dX1_branch_79 (by decide) ?_
            refine lv_irem hx hb dX1_branch_80 (by decide) ?_
            refine lv_if_ne (tgt := 88) hx hb dX1_branch_81 (by decide) (fun c20 => ?_) (fun c20 => ?_)
            · refine lv_iconst (v := 0) hx hb dX1_branch_88 (by decide) ?_
              refine lv_icmp_ne (tgt := 106) hx hb dX1_branch_89 (by decide) (fun c21 => ?_) (fun c21 => ?_)
              · exact (c21 (by decide)).elim
              · refine lv_aload_n hx hb dX1_branch_92 rfl (lv_at hl 1 rfl) ?_
                refine lv_aload_n hx hb dX1_branch_93 rfl (lv_at hl 1 rfl) ?_
                refine va_get (D := (dC, dI)) (ci := 1) (v := .int st.2.2.2.1) (C := "PagedHartModel") (T := TX1) (N := 18) hx hb hts mU1 hown hK hP 0 rfl rfl 3 (by decide) (hts _ mF_1_75) (fun _ h9 => h9) rfl dX1_branch_94 ?_
                refine lv_iload_n hx hb dX1_branch_97 rfl (lv_at hl 2 rfl) ?_
                refine W.callR (W.runS (As := [.int p1]) (rest := [.int st.2.2.2.1, .ref h0]) ⟨hx, hb, hml, hown, hts⟩ (cr_near l p1) (cwS 1 hts (gS mL_1_142 mS_1_near mN_1 mB_1_near) rfl rfl rfl (by decide +kernel) ⟨Nat.le_of_ble_eq_true rfl, Nat.le_of_ble_eq_true rfl⟩) ⟨jblind, fun _ _ _ => ⟨rfl, trivial⟩⟩ rfl rfl hl.1 rfl (lv_room (Nat.le_of_ble_eq_true rfl)) dX1_branch_98 ⟨Nat.zero_le _, Nat.zero_le _⟩) ?_
                refine W.eq (g2 := F0 m 101 ls (.int (r_near p1) :: [.int st.2.2.2.1, .ref h0])) rfl ?_
                refine lv_topi (fun x22 ex22 => ?_)
                refine lv_iadd hx hb dX1_branch_101 ?_
                refine lv_iconst (v := 0) hx hb dX1_branch_102 (by decide) ?_
                refine rMv (As := [.int (st.2.2.2.1 + x22), .int 0]) (rest := []) (f := r_jump st (st.2.2.2.1 + x22) (0 : Int32)) ⟨hx, hb, hml, hown, hts⟩ (cr_jump l dC dI cI h0 qme0 qre1 tN tB H.size st (st.2.2.2.1 + x22) (0 : Int32) (jin (by decide))) (cwV 2 hts (gV mL_1_118 mI_1_jump mX_1_jump mN_1 mB_1_jump) rfl rfl rfl (by decide +kernel) ⟨Nat.le_of_ble_eq_true rfl, Nat.le_of_ble_eq_true rfl⟩) hK hP hD hS hZ rfl hl.1 rfl (Nat.le_of_ble_eq_true rfl) dX1_branch_103 ⟨Nat.zero_le _, Nat.zero_le _⟩ (fun z23 ez23 H locs hP hD hS => ?_)
                have hP : va_P (dC, dI) vwCl (rW cI h0 qme0 qre1 z23) H := hP
                have hD : va_D (rA h0 qme0 qre1 s.heap.size) (rW cI h0 qme0 qre1 z23) := hD
                exact rVret (u := z23) hx hb hr hlocks (by subst ez23 ex22; exact (((if_neg c1).trans ((if_neg c3).trans ((if_pos c4).trans ((if_neg c5).trans ((if_pos c19).trans ((if_neg c20).trans rfl))))))).symm) hK hP hD hS dX1_branch_106
            · refine lv_iconst (v := 1) hx hb dX1_branch_84 (by decide) ?_
              refine lv_goto (tgt := 89) hx hb dX1_branch_85 (by decide) ?_
              refine lv_icmp_ne (tgt := 106) hx hb dX1_branch_89 (by decide) (fun c24 => ?_) (fun c24 => ?_)
              · exact rVret (u := st) hx hb hr hlocks (by exact (((if_neg c1).trans ((if_neg c3).trans ((if_pos c4).trans ((if_neg c5).trans ((if_pos c19).trans ((if_pos c20).trans rfl))))))).symm) hK hP hD hS dX1_branch_106
              · exact absurd c24 (by decide)
          · refine lv_iconst (v := 1) hx hb dX1_branch_48 (by decide) ?_
            refine lv_goto (tgt := 74) hx hb dX1_branch_49 (by decide) ?_
            refine lv_istore (lv' := [(5, .int 1), (0, .ref h0), (1, .int p1), (2, .int p2), (3, .int p3), (4, .int p4)]) hx hb dX1_branch_74 hl (by decide) rfl (fun ls hl => ?_)
            refine lv_iload hx hb dX1_branch_76 (lv_at hl 0 rfl) ?_
            refine lv_iload_n hx hb dX1_branch_78 rfl (lv_at hl 3 rfl) ?_
            refine lv_iconst (v := 2) hx hb dX1_branch_79 (by decide) ?_
            refine lv_irem hx hb dX1_branch_80 (by decide) ?_
            refine lv_if_ne (tgt := 88) hx hb dX1_branch_81 (by decide) (fun c25 => ?_) (fun c25 => ?_)
            · refine lv_iconst (v := 0) hx hb dX1_branch_88 (by decide) ?_
              refine lv_icmp_ne (tgt := 106) hx hb dX1_branch_89 (by decide) (fun c26 => ?_) (fun c26 => ?_)
              · exact rVret (u := st) hx hb hr hlocks (by exact (((if_neg c1).trans ((if_neg c3).trans ((if_pos c4).trans ((if_neg c5).trans ((if_neg c19).trans ((if_neg c25).trans rfl))))))).symm) hK hP hD hS dX1_branch_106
              · exact absurd c26 (by decide)
            · refine lv_iconst (v := 1) hx hb dX1_branch_84 (by decide) ?_
              refine lv_goto (tgt := 89) hx hb dX1_branch_85 (by decide) ?_
              refine lv_icmp_ne (tgt := 106) hx hb dX1_branch_89 (by decide) (fun c27 => ?_) (fun c27 => ?_)
              · exact (c27 (by decide)).elim
              · refine lv_aload_n hx hb dX1_branch_92 rfl (lv_at hl 1 rfl) ?_
                refine lv_aload_n hx hb dX1_branch_93 rfl (lv_at hl 1 rfl) ?_
                refine va_get (D := (dC, dI)) (ci := 1) (v := .int st.2.2.2.1) (C := "PagedHartModel") (T := TX1) (N := 18) hx hb hts mU1 hown hK hP 0 rfl rfl 3 (by decide) (hts _ mF_1_75) (fun _ h9 => h9) rfl dX1_branch_94 ?_
                refine lv_iload_n hx hb dX1_branch_97 rfl (lv_at hl 2 rfl) ?_
                refine W.callR (W.runS (As := [.int p1]) (rest := [.int st.2.2.2.1, .ref h0]) ⟨hx, hb, hml, hown, hts⟩ (cr_near l p1) (cwS 1 hts (gS mL_1_142 mS_1_near mN_1 mB_1_near) rfl rfl rfl (by decide +kernel) ⟨Nat.le_of_ble_eq_true rfl, Nat.le_of_ble_eq_true rfl⟩) ⟨jblind, fun _ _ _ => ⟨rfl, trivial⟩⟩ rfl rfl hl.1 rfl (lv_room (Nat.le_of_ble_eq_true rfl)) dX1_branch_98 ⟨Nat.zero_le _, Nat.zero_le _⟩) ?_
                refine W.eq (g2 := F0 m 101 ls (.int (r_near p1) :: [.int st.2.2.2.1, .ref h0])) rfl ?_
                refine lv_topi (fun x28 ex28 => ?_)
                refine lv_iadd hx hb dX1_branch_101 ?_
                refine lv_iconst (v := 0) hx hb dX1_branch_102 (by decide) ?_
                refine rMv (As := [.int (st.2.2.2.1 + x28), .int 0]) (rest := []) (f := r_jump st (st.2.2.2.1 + x28) (0 : Int32)) ⟨hx, hb, hml, hown, hts⟩ (cr_jump l dC dI cI h0 qme0 qre1 tN tB H.size st (st.2.2.2.1 + x28) (0 : Int32) (jin (by decide))) (cwV 2 hts (gV mL_1_118 mI_1_jump mX_1_jump mN_1 mB_1_jump) rfl rfl rfl (by decide +kernel) ⟨Nat.le_of_ble_eq_true rfl, Nat.le_of_ble_eq_true rfl⟩) hK hP hD hS hZ rfl hl.1 rfl (Nat.le_of_ble_eq_true rfl) dX1_branch_103 ⟨Nat.zero_le _, Nat.zero_le _⟩ (fun z29 ez29 H locs hP hD hS => ?_)
                have hP : va_P (dC, dI) vwCl (rW cI h0 qme0 qre1 z29) H := hP
                have hD : va_D (rA h0 qme0 qre1 s.heap.size) (rW cI h0 qme0 qre1 z29) := hD
                exact rVret (u := z29) hx hb hr hlocks (by subst ez29 ex28; exact (((if_neg c1).trans ((if_neg c3).trans ((if_pos c4).trans ((if_neg c5).trans ((if_neg c19).trans ((if_pos c25).trans rfl))))))).symm) hK hP hD hS dX1_branch_106
      · refine lv_iload_n hx hb dX1_branch_22 rfl (lv_at hl 3 rfl) ?_
        refine lv_iload hx hb dX1_branch_23 (lv_at hl 4 rfl) ?_
        refine lv_icmp_ne (tgt := 32) hx hb dX1_branch_25 (by decide) (fun c30 => ?_) (fun c30 => ?_)
        · refine lv_iconst (v := 0) hx hb dX1_branch_32 (by decide) ?_
          refine lv_goto (tgt := 74) hx hb dX1_branch_33 (by decide) ?_
          refine lv_istore (lv' := [(5, .int 0), (0, .ref h0), (1, .int p1), (2, .int p2), (3, .int p3), (4, .int p4)]) hx hb dX1_branch_74 hl (by decide) rfl (fun ls hl => ?_)
          refine lv_iload hx hb dX1_branch_76 (lv_at hl 0 rfl) ?_
          refine lv_iload_n hx hb dX1_branch_78 rfl (lv_at hl 3 rfl) ?_
          refine lv_iconst (v := 2) hx hb dX1_branch_79 (by decide) ?_
          refine lv_irem hx hb dX1_branch_80 (by decide) ?_
          refine lv_if_ne (tgt := 88) hx hb dX1_branch_81 (by decide) (fun c31 => ?_) (fun c31 => ?_)
          · refine lv_iconst (v := 0) hx hb dX1_branch_88 (by decide) ?_
            refine lv_icmp_ne (tgt := 106) hx hb dX1_branch_89 (by decide) (fun c32 => ?_) (fun c32 => ?_)
            · exact (c32 (by decide)).elim
            · refine lv_aload_n hx hb dX1_branch_92 rfl (lv_at hl 1 rfl) ?_
              refine lv_aload_n hx hb dX1_branch_93 rfl (lv_at hl 1 rfl) ?_
              refine va_get (D := (dC, dI)) (ci := 1) (v := .int st.2.2.2.1) (C := "PagedHartModel") (T := TX1) (N := 18) hx hb hts mU1 hown hK hP 0 rfl rfl 3 (by decide) (hts _ mF_1_75) (fun _ h9 => h9) rfl dX1_branch_94 ?_
              refine lv_iload_n hx hb dX1_branch_97 rfl (lv_at hl 2 rfl) ?_
              refine W.callR (W.runS (As := [.int p1]) (rest := [.int st.2.2.2.1, .ref h0]) ⟨hx, hb, hml, hown, hts⟩ (cr_near l p1) (cwS 1 hts (gS mL_1_142 mS_1_near mN_1 mB_1_near) rfl rfl rfl (by decide +kernel) ⟨Nat.le_of_ble_eq_true rfl, Nat.le_of_ble_eq_true rfl⟩) ⟨jblind, fun _ _ _ => ⟨rfl, trivial⟩⟩ rfl rfl hl.1 rfl (lv_room (Nat.le_of_ble_eq_true rfl)) dX1_branch_98 ⟨Nat.zero_le _, Nat.zero_le _⟩) ?_
              refine W.eq (g2 := F0 m 101 ls (.int (r_near p1) :: [.int st.2.2.2.1, .ref h0])) rfl ?_
              refine lv_topi (fun x33 ex33 => ?_)
              refine lv_iadd hx hb dX1_branch_101 ?_
              refine lv_iconst (v := 0) hx hb dX1_branch_102 (by decide) ?_
              refine rMv (As := [.int (st.2.2.2.1 + x33), .int 0]) (rest := []) (f := r_jump st (st.2.2.2.1 + x33) (0 : Int32)) ⟨hx, hb, hml, hown, hts⟩ (cr_jump l dC dI cI h0 qme0 qre1 tN tB H.size st (st.2.2.2.1 + x33) (0 : Int32) (jin (by decide))) (cwV 2 hts (gV mL_1_118 mI_1_jump mX_1_jump mN_1 mB_1_jump) rfl rfl rfl (by decide +kernel) ⟨Nat.le_of_ble_eq_true rfl, Nat.le_of_ble_eq_true rfl⟩) hK hP hD hS hZ rfl hl.1 rfl (Nat.le_of_ble_eq_true rfl) dX1_branch_103 ⟨Nat.zero_le _, Nat.zero_le _⟩ (fun z34 ez34 H locs hP hD hS => ?_)
              have hP : va_P (dC, dI) vwCl (rW cI h0 qme0 qre1 z34) H := hP
              have hD : va_D (rA h0 qme0 qre1 s.heap.size) (rW cI h0 qme0 qre1 z34) := hD
              exact rVret (u := z34) hx hb hr hlocks (by subst ez34 ex33; exact (((if_neg c1).trans ((if_neg c3).trans ((if_neg c4).trans ((if_neg c30).trans ((if_neg c31).trans rfl)))))).symm) hK hP hD hS dX1_branch_106
          · refine lv_iconst (v := 1) hx hb dX1_branch_84 (by decide) ?_
            refine lv_goto (tgt := 89) hx hb dX1_branch_85 (by decide) ?_
            refine lv_icmp_ne (tgt := 106) hx hb dX1_branch_89 (by decide) (fun c35 => ?_) (fun c35 => ?_)
            · exact rVret (u := st) hx hb hr hlocks (by exact (((if_neg c1).trans ((if_neg c3).trans ((if_neg c4).trans ((if_neg c30).trans ((if_pos c31).trans rfl)))))).symm) hK hP hD hS dX1_branch_106
            · exact absurd c35 (by decide)
        · refine lv_iconst (v := 1) hx hb dX1_branch_28 (by decide) ?_
          refine lv_goto (tgt := 74) hx hb dX1_branch_29 (by decide) ?_
          refine lv_istore (lv' := [(5, .int 1), (0, .ref h0), (1, .int p1), (2, .int p2), (3, .int p3), (4, .int p4)]) hx hb dX1_branch_74 hl (by decide) rfl (fun ls hl => ?_)
          refine lv_iload hx hb dX1_branch_76 (lv_at hl 0 rfl) ?_
          refine lv_iload_n hx hb dX1_branch_78 rfl (lv_at hl 3 rfl) ?_
          refine lv_iconst (v := 2) hx hb dX1_branch_79 (by decide) ?_
          refine lv_irem hx hb dX1_branch_80 (by decide) ?_
          refine lv_if_ne (tgt := 88) hx hb dX1_branch_81 (by decide) (fun c36 => ?_) (fun c36 => ?_)
          · refine lv_iconst (v := 0) hx hb dX1_branch_88 (by decide) ?_
            refine lv_icmp_ne (tgt := 106) hx hb dX1_branch_89 (by decide) (fun c37 => ?_) (fun c37 => ?_)
            · exact rVret (u := st) hx hb hr hlocks (by exact (((if_neg c1).trans ((if_neg c3).trans ((if_neg c4).trans ((if_pos c30).trans ((if_neg c36).trans rfl)))))).symm) hK hP hD hS dX1_branch_106
            · exact absurd c37 (by decide)
          · refine lv_iconst (v := 1) hx hb dX1_branch_84 (by decide) ?_
            refine lv_goto (tgt := 89) hx hb dX1_branch_85 (by decide) ?_
            refine lv_icmp_ne (tgt := 106) hx hb dX1_branch_89 (by decide) (fun c38 => ?_) (fun c38 => ?_)
            · exact (c38 (by decide)).elim
            · refine lv_aload_n hx hb dX1_branch_92 rfl (lv_at hl 1 rfl) ?_
              refine lv_aload_n hx hb dX1_branch_93 rfl (lv_at hl 1 rfl) ?_
              refine va_get (D := (dC, dI)) (ci := 1) (v := .int st.2.2.2.1) (C := "PagedHartModel") (T := TX1) (N := 18) hx hb hts mU1 hown hK hP 0 rfl rfl 3 (by decide) (hts _ mF_1_75) (fun _ h9 => h9) rfl dX1_branch_94 ?_
              refine lv_iload_n hx hb dX1_branch_97 rfl (lv_at hl 2 rfl) ?_
              refine W.callR (W.runS (As := [.int p1]) (rest := [.int st.2.2.2.1, .ref h0]) ⟨hx, hb, hml, hown, hts⟩ (cr_near l p1) (cwS 1 hts (gS mL_1_142 mS_1_near mN_1 mB_1_near) rfl rfl rfl (by decide +kernel) ⟨Nat.le_of_ble_eq_true rfl, Nat.le_of_ble_eq_true rfl⟩) ⟨jblind, fun _ _ _ => ⟨rfl, trivial⟩⟩ rfl rfl hl.1 rfl (lv_room (Nat.le_of_ble_eq_true rfl)) dX1_branch_98 ⟨Nat.zero_le _, Nat.zero_le _⟩) ?_
              refine W.eq (g2 := F0 m 101 ls (.int (r_near p1) :: [.int st.2.2.2.1, .ref h0])) rfl ?_
              refine lv_topi (fun x39 ex39 => ?_)
              refine lv_iadd hx hb dX1_branch_101 ?_
              refine lv_iconst (v := 0) hx hb dX1_branch_102 (by decide) ?_
              refine rMv (As := [.int (st.2.2.2.1 + x39), .int 0]) (rest := []) (f := r_jump st (st.2.2.2.1 + x39) (0 : Int32)) ⟨hx, hb, hml, hown, hts⟩ (cr_jump l dC dI cI h0 qme0 qre1 tN tB H.size st (st.2.2.2.1 + x39) (0 : Int32) (jin (by decide))) (cwV 2 hts (gV mL_1_118 mI_1_jump mX_1_jump mN_1 mB_1_jump) rfl rfl rfl (by decide +kernel) ⟨Nat.le_of_ble_eq_true rfl, Nat.le_of_ble_eq_true rfl⟩) hK hP hD hS hZ rfl hl.1 rfl (Nat.le_of_ble_eq_true rfl) dX1_branch_103 ⟨Nat.zero_le _, Nat.zero_le _⟩ (fun z40 ez40 H locs hP hD hS => ?_)
              have hP : va_P (dC, dI) vwCl (rW cI h0 qme0 qre1 z40) H := hP
              have hD : va_D (rA h0 qme0 qre1 s.heap.size) (rW cI h0 qme0 qre1 z40) := hD
              exact rVret (u := z40) hx hb hr hlocks (by subst ez40 ex39; exact (((if_neg c1).trans ((if_neg c3).trans ((if_neg c4).trans ((if_pos c30).trans ((if_pos c36).trans rfl)))))).symm) hK hP hD hS dX1_branch_106
    · refine lv_aload_n hx hb dX1_branch_10 rfl (lv_at hl 0 rfl) ?_
      refine lv_iconst (v := 2) hx hb dX1_branch_11 (by decide) ?_
      refine lv_iload_n hx hb dX1_branch_12 rfl (lv_at hl 1 rfl) ?_
      refine rMv (As := [.int 2, .int p1]) (rest := []) (f := r_trap st (2 : Int32) p1) ⟨hx, hb, hml, hown, hts⟩ (cr_trap l dC dI cI h0 qme0 qre1 tN tB H.size st (2 : Int32) p1) (cwV 2 hts (gV mL_1_93 mI_1_trap mX_1_trap mN_1 mB_1_trap) rfl rfl rfl (by decide +kernel) ⟨Nat.le_of_ble_eq_true rfl, Nat.le_of_ble_eq_true rfl⟩) hK hP hD hS hZ rfl hl.1 rfl (Nat.le_of_ble_eq_true rfl) dX1_branch_13 ⟨Nat.zero_le _, Nat.zero_le _⟩ (fun z41 ez41 H locs hP hD hS => ?_)
      have hP : va_P (dC, dI) vwCl (rW cI h0 qme0 qre1 z41) H := hP
      have hD : va_D (rA h0 qme0 qre1 s.heap.size) (rW cI h0 qme0 qre1 z41) := hD
      exact rVret (u := z41) hx hb hr hlocks (by subst ez41; exact (((if_neg c1).trans ((if_pos c3).trans rfl))).symm) hK hP hD hS dX1_branch_16
