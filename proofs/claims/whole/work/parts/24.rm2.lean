def r_load (st : RS) (p1 : Int32) (p2 : Int32) (p3 : Int32) (p4 : Int32) : RS :=
  if p2 = (3 : Int32) then
    let z2 : RS := r_trap st (2 : Int32) p1
    z2
  else
    if p2 ≤ (5 : Int32) then
      if (p2 - p2 / (4 : Int32) * (4 : Int32)) = 0 then
        let z36 : Int32 × RS := r_reach st p4 (1 : Int32) (1 : Int32)
        let x37 : Int32 := z36.1
        if z36.2.2.2.2.2.2.2.2.2.2.2.2.2.2.2.2.1 = 0 then
          let x39 : Int32 := r_bits x37 (0 : Int32) (1 : Int32)
          let x40 : Int32 := (8 : Int32) * x39
          let x41 : Int32 := r_bits (z36.2.2.1 (x37 / (4 : Int32)).toNatClampNeg) x40 ((x40 + ((8 : Int32) * (1 : Int32))) - (1 : Int32))
          if (2 : Int32) ≤ p2 then
            let z44 : RS := r_set z36.2 p3 x41
            z44
          else
            let x45 : Int32 := r_has x41 (((8 : Int32) * (1 : Int32)) - (1 : Int32))
            if x45 = 0 then
              let z48 : RS := r_set z36.2 p3 x41
              z48
            else
              let z50 : RS := r_set z36.2 p3 (x41 - ((1 : Int32) <<< (((8 : Int32) * (1 : Int32)) &&& 31)))
              z50
        else
          z36.2
      else
        if (p2 - p2 / (4 : Int32) * (4 : Int32)) = (1 : Int32) then
          let z21 : Int32 × RS := r_reach st p4 (2 : Int32) (1 : Int32)
          let x22 : Int32 := z21.1
          if z21.2.2.2.2.2.2.2.2.2.2.2.2.2.2.2.2.1 = 0 then
            let x24 : Int32 := r_bits x22 (0 : Int32) (1 : Int32)
            let x25 : Int32 := (8 : Int32) * x24
            let x26 : Int32 := r_bits (z21.2.2.1 (x22 / (4 : Int32)).toNatClampNeg) x25 ((x25 + ((8 : Int32) * (2 : Int32))) - (1 : Int32))
            if (2 : Int32) ≤ p2 then
              let z29 : RS := r_set z21.2 p3 x26
              z29
            else
              let x30 : Int32 := r_has x26 (((8 : Int32) * (2 : Int32)) - (1 : Int32))
              if x30 = 0 then
                let z33 : RS := r_set z21.2 p3 x26
                z33
              else
                let z35 : RS := r_set z21.2 p3 (x26 - ((1 : Int32) <<< (((8 : Int32) * (2 : Int32)) &&& 31)))
                z35
          else
            z21.2
        else
          let z6 : Int32 × RS := r_reach st p4 (4 : Int32) (1 : Int32)
          let x7 : Int32 := z6.1
          if z6.2.2.2.2.2.2.2.2.2.2.2.2.2.2.2.2.1 = 0 then
            let x9 : Int32 := r_bits x7 (0 : Int32) (1 : Int32)
            let x10 : Int32 := (8 : Int32) * x9
            let x11 : Int32 := r_bits (z6.2.2.1 (x7 / (4 : Int32)).toNatClampNeg) x10 ((x10 + ((8 : Int32) * (4 : Int32))) - (1 : Int32))
            if (2 : Int32) ≤ p2 then
              let z14 : RS := r_set z6.2 p3 x11
              z14
            else
              let x15 : Int32 := r_has x11 (((8 : Int32) * (4 : Int32)) - (1 : Int32))
              if x15 = 0 then
                let z18 : RS := r_set z6.2 p3 x11
                z18
              else
                let z20 : RS := r_set z6.2 p3 (x11 - ((1 : Int32) <<< (((8 : Int32) * (4 : Int32)) &&& 31)))
                z20
          else
            z6.2
    else
      let z51 : RS := r_trap st (2 : Int32) p1
      z51
set_option maxHeartbeats 4000000 in
set_option maxRecDepth 100000 in
theorem cr_load (l : Launch) (dC : Nat → ClassId) (dI : Nat → Nat → Nat) (cI h0 qme0 qre1 tN tB : Nat) (sz : Nat) (st : RS) (p1 : Int32) (p2 : Int32) (p3 : Int32) (p4 : Int32) (hp3 : vp_in p3 32)  : Met l yX1_load (.code yX1_load cX1_load 10 none :: gBIG) ({ frames := 5, cells := 0, slots := 0, locals := 116 }) (va_Pc [.ref h0, .int p1, .int p2, .int p3, .int p4] (rPre dC dI cI h0 qme0 qre1 tN tB sz st)) (va_Qv (fun v => v = r_load st p1 p2 p3 p4) (rB dC dI cI h0 qme0 qre1 (rA h0 qme0 qre1 sz)) (rA h0 qme0 qre1 sz)) 0 0 (rA h0 qme0 qre1 sz) := by
  refine Met.ofW (cc := cX1_load) (maxL := 10) (ret := none) (by decide) rfl ?_
  intro p e s m args below meth c s₁ B hml hv
  obtain ⟨rfl, hsz, hP, hK, hD0, hZ⟩ := hv
  have hx := B.exec
  have hb := B.bytes
  have hr := B.returns
  have hts : ∀ w ∈ gBIG, w.before _ s = true := fun w h => atoms_spec (ws := (.code yX1_load cX1_load 10 none :: gBIG)) B.pre w (List.mem_cons_of_mem _ h)
  have hown : s.vm.findClass "PagedHartModel" = some m.cls := findClass_of_methodNamed B.named
  have hlocks := B.notSynchronized
  subst hsz
  have hD : va_D (rA h0 qme0 qre1 s.heap.size) (rW cI h0 qme0 qre1 st) := rD hD0
  have hS : va_S (rA h0 qme0 qre1 s.heap.size) s.heap s.heap [] := va_S.rf
  have hP : va_P (dC, dI) vwCl (rW cI h0 qme0 qre1 st) s.heap := hP
  have hl := lv_entry ([.ref h0, .int p1, .int p2, .int p3, .int p4]) (n := 10) (Nat.le_of_ble_eq_true rfl)
  rw [lg_entry_eq]
  generalize (lg_sl ([.ref h0, .int p1, .int p2, .int p3, .int p4]) ++ List.replicate (10 - (lg_sl ([.ref h0, .int p1, .int p2, .int p3, .int p4])).length) Slot.unset).toArray = ls at hl ⊢
  refine jgo (P := fun H locs => va_P (dC, dI) vwCl (rW cI h0 qme0 qre1 st) H ∧ va_S (rA h0 qme0 qre1 s.heap.size) s.heap H locs) ⟨hP, hS⟩ (fun H locs hPS => ?_)
  obtain ⟨hP, hS⟩ := hPS
  have hl : lv_has ls 10 [(0, .ref h0), (1, .int p1), (2, .int p2), (3, .int p3), (4, .int p4)] := hl
  refine lv_iload_n hx hb dX1_load_0 rfl (lv_at hl 2 rfl) ?_
  refine lv_iconst (v := 3) hx hb dX1_load_1 (by decide) ?_
  refine lv_icmp_eq (tgt := 10) hx hb dX1_load_2 (by decide) (fun c1 => ?_) (fun c1 => ?_)
  · refine lv_aload_n hx hb dX1_load_10 rfl (lv_at hl 0 rfl) ?_
    refine lv_iconst (v := 2) hx hb dX1_load_11 (by decide) ?_
    refine lv_iload_n hx hb dX1_load_12 rfl (lv_at hl 1 rfl) ?_
    refine rMv (As := [.int 2, .int p1]) (rest := []) (f := r_trap st (2 : Int32) p1) ⟨hx, hb, hml, hown, hts⟩ (cr_trap l dC dI cI h0 qme0 qre1 tN tB H.size st (2 : Int32) p1) (cwV 2 hts (gV mL_1_93 mI_1_trap mX_1_trap mN_1 mB_1_trap) rfl rfl rfl (by decide +kernel) ⟨Nat.le_of_ble_eq_true rfl, Nat.le_of_ble_eq_true rfl⟩) hK hP hD hS hZ rfl hl.1 rfl (Nat.le_of_ble_eq_true rfl) dX1_load_13 ⟨Nat.zero_le _, Nat.zero_le _⟩ (fun z2 ez2 H locs hP hD hS => ?_)
    have hP : va_P (dC, dI) vwCl (rW cI h0 qme0 qre1 z2) H := hP
    have hD : va_D (rA h0 qme0 qre1 s.heap.size) (rW cI h0 qme0 qre1 z2) := hD
    exact rVret (u := z2) hx hb hr hlocks (by subst ez2; exact (((if_pos c1).trans rfl)).symm) hK hP hD hS dX1_load_16
  · refine lv_iload_n hx hb dX1_load_5 rfl (lv_at hl 2 rfl) ?_
    refine lv_iconst (v := 5) hx hb dX1_load_6 (by decide) ?_
    refine lv_icmp_le (tgt := 17) hx hb dX1_load_7 (by decide) (fun c3 => ?_) (fun c3 => ?_)
    · refine lv_iload_n hx hb dX1_load_17 rfl (lv_at hl 2 rfl) ?_
      refine lv_iconst (v := 4) hx hb dX1_load_18 (by decide) ?_
      refine lv_irem hx hb dX1_load_19 (by decide) ?_
      refine lv_if_ne (tgt := 27) hx hb dX1_load_20 (by decide) (fun c4 => ?_) (fun c4 => ?_)
      · refine lv_iload_n hx hb dX1_load_27 rfl (lv_at hl 2 rfl) ?_
        refine lv_iconst (v := 4) hx hb dX1_load_28 (by decide) ?_
        refine lv_irem hx hb dX1_load_29 (by decide) ?_
        refine lv_iconst (v := 1) hx hb dX1_load_30 (by decide) ?_
        refine lv_icmp_ne (tgt := 38) hx hb dX1_load_31 (by decide) (fun c5 => ?_) (fun c5 => ?_)
        · refine lv_iconst (v := 4) hx hb dX1_load_38 (by decide) ?_
          refine lv_istore (lv' := [(5, .int 4), (0, .ref h0), (1, .int p1), (2, .int p2), (3, .int p3), (4, .int p4)]) hx hb dX1_load_39 hl (by decide) rfl (fun ls hl => ?_)
          refine lv_aload_n hx hb dX1_load_41 rfl (lv_at hl 1 rfl) ?_
          refine lv_iload hx hb dX1_load_42 (lv_at hl 5 rfl) ?_
          refine lv_iload hx hb dX1_load_44 (lv_at hl 0 rfl) ?_
          refine lv_iconst (v := 1) hx hb dX1_load_46 (by decide) ?_
          refine rMi (As := [.int p4, .int 4, .int 1]) (rest := []) (f := r_reach st p4 (4 : Int32) (1 : Int32)) ⟨hx, hb, hml, hown, hts⟩ (cr_reach l dC dI cI h0 qme0 qre1 tN tB H.size st p4 (4 : Int32) (1 : Int32) (by decide)) (cwV 3 hts (gV mL_1_102 mI_1_reach mX_1_reach mN_1 mB_1_reach) rfl rfl rfl (by decide +kernel) ⟨Nat.le_of_ble_eq_true rfl, Nat.le_of_ble_eq_true rfl⟩) hK hP hD hS hZ rfl hl.1 rfl (Nat.le_of_ble_eq_true rfl) dX1_load_47 ⟨Nat.zero_le _, Nat.zero_le _⟩ (fun z6 ez6 H locs hP hD hS => ?_)
          have hP : va_P (dC, dI) vwCl (rW cI h0 qme0 qre1 z6.2) H := hP
          have hD : va_D (rA h0 qme0 qre1 s.heap.size) (rW cI h0 qme0 qre1 z6.2) := hD
          refine lv_topi (fun x7 ex7 => ?_)
          refine lv_istore (lv' := [(6, .int x7), (5, .int 4), (0, .ref h0), (1, .int p1), (2, .int p2), (3, .int p3), (4, .int p4)]) hx hb dX1_load_50 hl (by decide) rfl (fun ls hl => ?_)
          refine lv_aload_n hx hb dX1_load_52 rfl (lv_at hl 2 rfl) ?_
          refine va_get (D := (dC, dI)) (ci := 1) (v := .int z6.2.2.2.2.2.2.2.2.2.2.2.2.2.2.2.2.1) (C := "PagedHartModel") (T := TX1) (N := 18) hx hb hts mU1 hown hK hP 0 rfl rfl 15 (by decide) (hts _ mF_1_90) (fun _ h9 => h9) rfl dX1_load_53 ?_
          refine lv_if_eq (tgt := 60) hx hb dX1_load_56 (by decide) (fun c8 => ?_) (fun c8 => ?_)
          · refine lv_bipush (v := 8) hx hb dX1_load_60 (by decide) ?_
            refine lv_iload hx hb dX1_load_62 (lv_at hl 0 rfl) ?_
            refine lv_iconst (v := 0) hx hb dX1_load_64 (by decide) ?_
            refine lv_iconst (v := 1) hx hb dX1_load_65 (by decide) ?_
            refine W.callR (W.runS (As := [.int x7, .int 0, .int 1]) (rest := [.int 8]) ⟨hx, hb, hml, hown, hts⟩ (cr_bits l x7 (0 : Int32) (1 : Int32)) (cwS 3 hts (gS mL_1_46 mS_1_bits mN_1 mB_1_bits) rfl rfl rfl (by decide +kernel) ⟨Nat.le_of_ble_eq_true rfl, Nat.le_of_ble_eq_true rfl⟩) ⟨jblind, fun _ _ _ => ⟨rfl, trivial⟩⟩ rfl rfl hl.1 rfl (lv_room (Nat.le_of_ble_eq_true rfl)) dX1_load_66 ⟨Nat.zero_le _, Nat.zero_le _⟩) ?_
            refine W.eq (g2 := F0 m 69 ls (.int (r_bits x7 (0 : Int32) (1 : Int32)) :: [.int 8])) rfl ?_
            refine lv_topi (fun x9 ex9 => ?_)
            refine lv_imul hx hb dX1_load_69 ?_
            refine lv_topi (fun x10 ex10 => ?_)
            refine lv_istore (lv' := [(7, .int x10), (6, .int x7), (5, .int 4), (0, .ref h0), (1, .int p1), (2, .int p2), (3, .int p3), (4, .int p4)]) hx hb dX1_load_70 hl (by decide) rfl (fun ls hl => ?_)
            refine lv_aload_n hx hb dX1_load_72 rfl (lv_at hl 3 rfl) ?_
            refine va_get (D := (dC, dI)) (ci := 1) (v := .ref qme0) (C := "PagedHartModel") (T := TX1) (N := 18) hx hb hts mU1 hown hK hP 0 rfl rfl 1 (by decide) (hts _ mF_1_8) (fun _ h9 => h9) rfl dX1_load_73 ?_
            refine lv_iload hx hb dX1_load_76 (lv_at hl 1 rfl) ?_
            refine lv_iconst (v := 4) hx hb dX1_load_78 (by decide) ?_
            refine lv_idiv hx hb dX1_load_79 (by decide) ?_
            refine va_iald (D := (dC, dI)) hx hb hK hP 1 0 rfl rfl (by have h9 := c8; rw [ex7]; rw [ez6] at h9 ⊢; exact r_in3 _ _ _ _ h9) dX1_load_80 ?_
            refine lv_iload hx hb dX1_load_81 (lv_at hl 0 rfl) ?_
            refine lv_iload hx hb dX1_load_83 (lv_at hl 0 rfl) ?_
            refine lv_bipush (v := 8) hx hb dX1_load_85 (by decide) ?_
            refine lv_iload hx hb dX1_load_87 (lv_at hl 2 rfl) ?_
            refine lv_imul hx hb dX1_load_89 ?_
            refine lv_iadd hx hb dX1_load_90 ?_
            refine lv_iconst (v := 1) hx hb dX1_load_91 (by decide) ?_
            refine lv_isub hx hb dX1_load_92 ?_
            refine W.callR (W.runS (As := [.int (z6.2.2.1 (x7 / (4 : Int32)).toNatClampNeg), .int x10, .int ((x10 + ((8 : Int32) * (4 : Int32))) - (1 : Int32))]) (rest := []) ⟨hx, hb, hml, hown, hts⟩ (cr_bits l (z6.2.2.1 (x7 / (4 : Int32)).toNatClampNeg) x10 ((x10 + ((8 : Int32) * (4 : Int32))) - (1 : Int32))) (cwS 3 hts (gS mL_1_46 mS_1_bits mN_1 mB_1_bits) rfl rfl rfl (by decide +kernel) ⟨Nat.le_of_ble_eq_true rfl, Nat.le_of_ble_eq_true rfl⟩) ⟨jblind, fun _ _ _ => ⟨rfl, trivial⟩⟩ rfl rfl hl.1 rfl (lv_room (Nat.le_of_ble_eq_true rfl)) dX1_load_93 ⟨Nat.zero_le _, Nat.zero_le _⟩) ?_
            refine W.eq (g2 := F0 m 96 ls (.int (r_bits (z6.2.2.1 (x7 / (4 : Int32)).toNatClampNeg) x10 ((x10 + ((8 : Int32) * (4 : Int32))) - (1 : Int32))) :: [])) rfl ?_
            refine lv_topi (fun x11 ex11 => ?_)
            refine lv_istore (lv' := [(8, .int x11), (7, .int x10), (6, .int x7), (5, .int 4), (0, .ref h0), (1, .int p1), (2, .int p2), (3, .int p3), (4, .int p4)]) hx hb dX1_load_96 hl (by decide) rfl (fun ls hl => ?_)
            refine lv_iload_n hx hb dX1_load_98 rfl (lv_at hl 6 rfl) ?_
            refine lv_iconst (v := 2) hx hb dX1_load_99 (by decide) ?_
            refine lv_icmp_ge (tgt := 122) hx hb dX1_load_100 (by decide) (fun c12 => ?_) (fun c12 => ?_)
            · refine lv_iconst (v := 0) hx hb dX1_load_122 (by decide) ?_
              refine lv_istore (lv' := [(9, .int 0), (8, .int x11), (7, .int x10), (6, .int x7), (5, .int 4), (0, .ref h0), (1, .int p1), (2, .int p2), (3, .int p3), (4, .int p4)]) hx hb dX1_load_123 hl (by decide) rfl (fun ls hl => ?_)
              refine lv_aload_n hx hb dX1_load_125 rfl (lv_at hl 5 rfl) ?_
              refine lv_iload_n hx hb dX1_load_126 rfl (lv_at hl 8 rfl) ?_
              refine lv_iload hx hb dX1_load_127 (lv_at hl 0 rfl) ?_
              refine lv_if_eq (tgt := 145) hx hb dX1_load_129 (by decide) (fun c13 => ?_) (fun c13 => ?_)
              · refine lv_iload hx hb dX1_load_145 (lv_at hl 1 rfl) ?_
                refine rMv (As := [.int p3, .int x11]) (rest := []) (f := r_set z6.2 p3 x11) ⟨hx, hb, hml, hown, hts⟩ (cr_set l dC dI cI h0 qme0 qre1 tN tB H.size z6.2 p3 x11 hp3) (cwV 2 hts (gV mL_1_112 mI_1_set mX_1_set mN_1 mB_1_set) rfl rfl rfl (by decide +kernel) ⟨Nat.le_of_ble_eq_true rfl, Nat.le_of_ble_eq_true rfl⟩) hK hP hD hS hZ rfl hl.1 rfl (Nat.le_of_ble_eq_true rfl) dX1_load_147 ⟨Nat.zero_le _, Nat.zero_le _⟩ (fun z14 ez14 H locs hP hD hS => ?_)
                have hP : va_P (dC, dI) vwCl (rW cI h0 qme0 qre1 z14) H := hP
                have hD : va_D (rA h0 qme0 qre1 s.heap.size) (rW cI h0 qme0 qre1 z14) := hD
                exact rVret (u := z14) hx hb hr hlocks (by subst ez14 ex11 ex10 ex9 ex7 ez6; exact (((if_neg c1).trans ((if_pos c3).trans ((if_neg c4).trans ((if_neg c5).trans ((if_pos c8).trans ((if_pos c12).trans rfl))))))).symm) hK hP hD hS dX1_load_150
              · exact (c13 (by decide)).elim
            · refine lv_iload hx hb dX1_load_103 (lv_at hl 0 rfl) ?_
              refine lv_bipush (v := 8) hx hb dX1_load_105 (by decide) ?_
              refine lv_iload hx hb dX1_load_107 (lv_at hl 3 rfl) ?_
              refine lv_imul hx hb dX1_load_109 ?_
              refine lv_iconst (v := 1) hx hb dX1_load_110 (by decide) ?_
              refine lv_isub hx hb dX1_load_111 ?_
              refine W.callR (W.runS (As := [.int x11, .int (((8 : Int32) * (4 : Int32)) - (1 : Int32))]) (rest := []) ⟨hx, hb, hml, hown, hts⟩ (cr_has l x11 (((8 : Int32) * (4 : Int32)) - (1 : Int32))) (cwS 2 hts (gS mL_1_42 mS_1_has mN_1 mB_1_has) rfl rfl rfl (by decide +kernel) ⟨Nat.le_of_ble_eq_true rfl, Nat.le_of_ble_eq_true rfl⟩) ⟨jblind, fun _ _ _ => ⟨rfl, trivial⟩⟩ rfl rfl hl.1 rfl (lv_room (Nat.le_of_ble_eq_true rfl)) dX1_load_112 ⟨Nat.zero_le _, Nat.zero_le _⟩) ?_
              refine W.eq (g2 := F0 m 115 ls (.int (r_has x11 (((8 : Int32) * (4 : Int32)) - (1 : Int32))) :: [])) rfl ?_
              refine lv_topi (fun x15 ex15 => ?_)
              refine lv_if_eq (tgt := 122) hx hb dX1_load_115 (by decide) (fun c16 => ?_) (fun c16 => ?_)
              · refine lv_iconst (v := 0) hx hb dX1_load_122 (by decide) ?_
                refine lv_istore (lv' := [(9, .int 0), (8, .int x11), (7, .int x10), (6, .int x7), (5, .int 4), (0, .ref h0), (1, .int p1), (2, .int p2), (3, .int p3), (4, .int p4)]) hx hb dX1_load_123 hl (by decide) rfl (fun ls hl => ?_)
                refine lv_aload_n hx hb dX1_load_125 rfl (lv_at hl 5 rfl) ?_
                refine lv_iload_n hx hb dX1_load_126 rfl (lv_at hl 8 rfl) ?_
                refine lv_iload hx hb dX1_load_127 (lv_at hl 0 rfl) ?_
                refine lv_if_eq (tgt := 145) hx hb dX1_load_129 (by decide) (fun c17 => ?_) (fun c17 => ?_)
                · refine lv_iload hx hb dX1_load_145 (lv_at hl 1 rfl) ?_
                  refine rMv (As := [.int p3, .int x11]) (rest := []) (f := r_set z6.2 p3 x11) ⟨hx, hb, hml, hown, hts⟩ (cr_set l dC dI cI h0 qme0 qre1 tN tB H.size z6.2 p3 x11 hp3) (cwV 2 hts (gV mL_1_112 mI_1_set mX_1_set mN_1 mB_1_set) rfl rfl rfl (by decide +kernel) ⟨Nat.le_of_ble_eq_true rfl, Nat.le_of_ble_eq_true rfl⟩) hK hP hD hS hZ rfl hl.1 rfl (Nat.le_of_ble_eq_true rfl) dX1_load_147 ⟨Nat.zero_le _, Nat.zero_le _⟩ (fun z18 ez18 H locs hP hD hS => ?_)
                  have hP : va_P (dC, dI) vwCl (rW cI h0 qme0 qre1 z18) H := hP
                  have hD : va_D (rA h0 qme0 qre1 s.heap.size) (rW cI h0 qme0 qre1 z18) := hD
                  exact rVret (u := z18) hx hb hr hlocks (by subst ez18 ex15 ex11 ex10 ex9 ex7 ez6; exact (((if_neg c1).trans ((if_pos c3).trans ((if_neg c4).trans ((if_neg c5).trans ((if_pos c8).trans ((if_neg c12).trans ((if_pos c16).trans rfl)))))))).symm) hK hP hD hS dX1_load_150
                · exact (c17 (by decide)).elim
              · refine lv_iconst (v := 1) hx hb dX1_load_118 (by decide) ?_
                refine lv_goto (tgt := 123) hx hb dX1_load_119 (by decide) ?_
                refine lv_istore (lv' := [(9, .int 1), (8, .int x11), (7, .int x10), (6, .int x7), (5, .int 4), (0, .ref h0), (1, .int p1), (2, .int p2), (3, .int p3), (4, .int p4)]) hx hb dX1_load_123 hl (by decide) rfl (fun ls hl => ?_)
                refine lv_aload_n hx hb dX1_load_125 rfl (lv_at hl 5 rfl) ?_
                refine lv_iload_n hx hb dX1_load_126 rfl (lv_at hl 8 rfl) ?_
                refine lv_iload hx hb dX1_load_127 (lv_at hl 0 rfl) ?_
                refine lv_if_eq (tgt := 145) hx hb dX1_load_129 (by decide) (fun c19 => ?_) (fun c19 => ?_)
                · exact absurd c19 (by decide)
                · refine lv_iload hx hb dX1_load_132 (lv_at hl 1 rfl) ?_
                  refine lv_iconst (v := 1) hx hb dX1_load_134 (by decide) ?_
                  refine lv_bipush (v := 8) hx hb dX1_load_135 (by decide) ?_
                  refine lv_iload hx hb dX1_load_137 (lv_at hl 4 rfl) ?_
                  refine lv_imul hx hb dX1_load_139 ?_
                  refine lv_ishl hx hb dX1_load_140 ?_
                  refine lv_isub hx hb dX1_load_141 ?_
                  refine lv_goto (tgt := 147) hx hb dX1_load_142 (by decide) ?_
                  refine rMv (As := [.int p3, .int (x11 - ((1 : Int32) <<< (((8 : Int32) * (4 : Int32)) &&& 31)))]) (rest := []) (f := r_set z6.2 p3 (x11 - ((1 : Int32) <<< (((8 : Int32) * (4 : Int32)) &&& 31)))) ⟨hx, hb, hml, hown, hts⟩ (cr_set l dC dI cI h0 qme0 qre1 tN tB H.size z6.2 p3 (x11 - ((1 : Int32) <<< (((8 : Int32) * (4 : Int32)) &&& 31))) hp3) (cwV 2 hts (gV mL_1_112 mI_1_set mX_1_set mN_1 mB_1_set) rfl rfl rfl (by decide +kernel) ⟨Nat.le_of_ble_eq_true rfl, Nat.le_of_ble_eq_true rfl⟩) hK hP hD hS hZ rfl hl.1 rfl (Nat.le_of_ble_eq_true rfl) dX1_load_147 ⟨Nat.zero_le _, Nat.zero_le _⟩ (fun z20 ez20 H locs hP hD hS => ?_)
                  have hP : va_P (dC, dI) vwCl (rW cI h0 qme0 qre1 z20) H := hP
                  have hD : va_D (rA h0 qme0 qre1 s.heap.size) (rW cI h0 qme0 qre1 z20) := hD
                  exact rVret (u := z20) hx hb hr hlocks (by subst ez20 ex15 ex11 ex10 ex9 ex7 ez6; exact (((if_neg c1).trans ((if_pos c3).trans ((if_neg c4).trans ((if_neg c5).trans ((if_pos c8).trans ((if_neg c12).trans ((if_neg c16).trans rfl)))))))).symm) hK hP hD hS dX1_load_150
          · exact rVret (u := z6.2) hx hb hr hlocks (by subst ex7 ez6; exact (((if_neg c1).trans ((if_pos c3).trans ((if_neg c4).trans ((if_neg c5).trans ((if_neg c8).trans rfl)))))).symm) hK hP hD hS dX1_load_59
        · refine lv_iconst (v := 2) hx hb dX1_load_34 (by decide) ?_
          refine lv_goto (tgt := 39) hx hb dX1_load_35 (by decide) ?_
          refine lv_istore (lv' := [(5, .int 2), (0, .ref h0), (1, .int p1), (2, .int p2), (3, .int p3), (4, .int p4)]) hx hb dX1_load_39 hl (by decide) rfl (fun ls hl => ?_)
          refine lv_aload_n hx hb dX1_load_41 rfl (lv_at hl 1 rfl) ?_
          refine lv_iload hx hb dX1_load_42 (lv_at hl 5 rfl) ?_
          refine lv_iload hx hb dX1_load_44 (lv_at hl 0 rfl) ?_
          refine lv_iconst (v := 1) hx hb dX1_load_46 (by decide) ?_
          refine rMi (As := [.int p4, .int 2, .int 1]) (rest := []) (f := r_reach st p4 (2 : Int32) (1 : Int32)) ⟨hx, hb, hml, hown, hts⟩ (cr_reach l dC dI cI h0 qme0 qre1 tN tB H.size st p4 (2 : Int32) (1 : Int32) (by decide)) (cwV 3 hts (gV mL_1_102 mI_1_reach mX_1_reach mN_1 mB_1_reach) rfl rfl rfl (by decide +kernel) ⟨Nat.le_of_ble_eq_true rfl, Nat.le_of_ble_eq_true rfl⟩) hK hP hD hS hZ rfl hl.1 rfl (Nat.le_of_ble_eq_true rfl) dX1_load_47 ⟨Nat.zero_le _, Nat.zero_le _⟩ (fun z21 ez21 H locs hP hD hS => ?_)
          have hP : va_P (dC, dI) vwCl (rW cI h0 qme0 qre1 z21.2) H := hP
          have hD : va_D (rA h0 qme0 qre1 s.heap.size) (rW cI h0 qme0 qre1 z21.2) := hD
          refine lv_topi (fun x22 ex22 => ?_)
          refine lv_istore (lv' := [(6, .int x22), (5, .int 2), (0, .ref h0), (1, .int p1), (2, .int p2), (3, .int p3), (4, .int p4)]) hx hb dX1_load_50 hl (by decide) rfl (fun ls hl => ?_)
          refine lv_aload_n hx hb dX1_load_52 rfl (lv_at hl 2 rfl) ?_
          refine va_get (D := (dC, dI)) (ci := 1) (v := .int z21.2.2.2.2.2.2.2.2.2.2.2.2.2.2.2.2.1) (C := "PagedHartModel") (T := TX1) (N := 18) hx hb hts mU1 hown hK hP 0 rfl rfl 15 (by decide) (hts _ mF_1_90) (fun _ h9 => h9) rfl dX1_load_53 ?_
          refine lv_if_eq (tgt := 60) hx hb dX1_load_56 (by decide) (fun c23 => ?_) (fun c23 => ?_)
          · refine lv_bipush (v := 8) hx hb dX1_load_60 (by decide) ?_
            refine lv_iload hx hb dX1_load_62 (lv_at hl 0 rfl) ?_
            refine lv_iconst (v := 0) hx hb dX1_load_64 (by decide) ?_
            refine lv_iconst (v := 1) hx hb dX1_load_65 (by decide) ?_
            refine W.callR (W.runS (As := [.int x22, .int 0, .int 1]) (rest := [.int 8]) ⟨hx, hb, hml, hown, hts⟩ (cr_bits l x22 (0 : Int32) (1 : Int32)) (cwS 3 hts (gS mL_1_46 mS_1_bits mN_1 mB_1_bits) rfl rfl rfl (by decide +kernel) ⟨Nat.le_of_ble_eq_true rfl, Nat.le_of_ble_eq_true rfl⟩) ⟨jblind, fun _ _ _ => ⟨rfl, trivial⟩⟩ rfl rfl hl.1 rfl (lv_room (Nat.le_of_ble_eq_true rfl)) dX1_load_66 ⟨Nat.zero_le _, Nat.zero_le _⟩) ?_
            refine W.eq (g2 := F0 m 69 ls (.int (r_bits x22 (0 : Int32) (1 : Int32)) :: [.int 8])) rfl ?_
            refine lv_topi (fun x24 ex24 => ?_)
            refine lv_imul hx hb dX1_load_69 ?_
            refine lv_topi (fun x25 ex25 => ?_)
            refine lv_istore (lv' := [(7, .int x25), (6, .int x22), (5, .int 2), (0, .ref h0), (1, .int p1), (2, .int p2), (3, .int p3), (4, .int p4)]) hx hb dX1_load_70 hl (by decide) rfl (fun ls hl => ?_)
            refine lv_aload_n hx hb dX1_load_72 rfl (lv_at hl 3 rfl) ?_
            refine va_get (D := (dC, dI)) (ci := 1) (v := .ref qme0) (C := "PagedHartModel") (T := TX1) (N := 18) hx hb hts mU1 hown hK hP 0 rfl rfl 1 (by decide) (hts _ mF_1_8) (fun _ h9 => h9) rfl dX1_load_73 ?_
            refine lv_iload hx hb dX1_load_76 (lv_at hl 1 rfl) ?_
            refine lv_iconst (v := 4) hx hb dX1_load_78 (by decide) ?_
            refine lv_idiv hx hb dX1_load_79 (by decide) ?_
            refine va_iald (D := (dC, dI)) hx hb hK hP 1 0 rfl rfl (by have h9 := c23; rw [ex22]; rw [ez21] at h9 ⊢; exact r_in3 _ _ _ _ h9) dX1_load_80 ?_
            refine lv_iload hx hb dX1_load_81 (lv_at hl 0 rfl) ?_
            refine lv_iload hx hb dX1_load_83 (lv_at hl 0 rfl) ?_
            refine lv_bipush (v := 8) hx hb dX1_load_85 (by decide) ?_
            refine lv_iload hx hb dX1_load_87 (lv_at hl 2 rfl) ?_
            refine lv_imul hx hb dX1_load_89 ?_
            refine lv_iadd hx hb dX1_load_90 ?_
            refine lv_iconst (v := 1) hx hb dX1_load_91 (by decide) ?_
            refine lv_isub hx hb dX1_load_92 ?_
            refine W.callR (W.runS (As := [.int (z21.2.2.1 (x22 / (4 : Int32)).toNatClampNeg), .int x25, .int ((x25 + ((8 : Int32) * (2 : Int32))) - (1 : Int32))]) (rest := []) ⟨hx, hb, hml, hown, hts⟩ (cr_bits l (z21.2.2.1 (x22 / (4 : Int32)).toNatClampNeg) x25 ((x25 + ((8 : Int32) * (2 : Int32))) - (1 : Int32))) (cwS 3 hts (gS mL_1_46 mS_1_bits mN_1 mB_1_bits) rfl rfl rfl (by decide +kernel) ⟨Nat.le_of_ble_eq_true rfl, Nat.le_of_ble_eq_true rfl⟩) ⟨jblind, fun _ _ _ => ⟨rfl, trivial⟩⟩ rfl rfl hl.1 rfl (lv_room (Nat.le_of_ble_eq_true rfl)) dX1_load_93 ⟨Nat.zero_le _, Nat.zero_le _⟩) ?_
            refine W.eq (g2 := F0 m 96 ls (.int (r_bits (z21.2.2.1 (x22 / (4 : Int32)).toNatClampNeg) x25 ((x25 + ((8 : Int32) * (2 : Int32))) - (1 : Int32))) :: [])) rfl ?_
            refine lv_topi (fun x26 ex26 => ?_)
            refine lv_istore (lv' := [(8, .int x26), (7, .int x25), (6, .int x22), (5, .int 2), (0, .ref h0), (1, .int p1), (2, .int p2), (3, .int p3), (4, .int p4)]) hx hb dX1_load_96 hl (by decide) rfl (fun ls hl => ?_)
            refine lv_iload_n hx hb dX1_load_98 rfl (lv_at hl 6 rfl) ?_
            refine lv_iconst (v := 2) hx hb dX1_load_99 (by decide) ?_
            refine lv_icmp_ge (tgt := 122) hx hb dX1_load_100 (by decide) (fun c27 => ?_) (fun c27 => ?_)
            · refine lv_iconst (v := 0) hx hb dX1_load_122 (by decide) ?_
              refine lv_istore (lv' := [(9, .int 0), (8, .int x26), (7, .int x25), (6, .int x22), (5, .int 2), (0, .ref h0), (1, .int p1), (2, .int p2), (3, .int p3), (4, .int p4)]) hx hb dX1_load_123 hl (by decide) rfl (fun ls hl => ?_)
              refine lv_aload_n hx hb dX1_load_125 rfl (lv_at hl 5 rfl) ?_
              refine lv_iload_n hx hb dX1_load_126 rfl (lv_at hl 8 rfl) ?_
              refine lv_iload hx hb dX1_load_127 (lv_at hl 0 rfl) ?_
              refine lv_if_eq (tgt := 145) hx hb dX1_load_129 (by decide) (fun c28 => ?_) (fun c28 => ?_)
              · refine lv_iload hx hb dX1_load_145 (lv_at hl 1 rfl) ?_
                refine rMv (As := [.int p3, .int x26]) (rest := []) (f := r_set z21.2 p3 x26) ⟨hx, hb, hml, hown, hts⟩ (cr_set l dC dI cI h0 qme0 qre1 tN tB H.size z21.2 p3 x26 hp3) (cwV 2 hts (gV mL_1_112 mI_1_set mX_1_set mN_1 mB_1_set) rfl rfl rfl (by decide +kernel) ⟨Nat.le_of_ble_eq_true rfl, Nat.le_of_ble_eq_true rfl⟩) hK hP hD hS hZ rfl hl.1 rfl (Nat.le_of_ble_eq_true rfl) dX1_load_147 ⟨Nat.zero_le _, Nat.zero_le _⟩ (fun z29 ez29 H locs hP hD hS => ?_)
                have hP : va_P (dC, dI) vwCl (rW cI h0 qme0 qre1 z29) H := hP
                have hD : va_D (rA h0 qme0 qre1 s.heap.size) (rW cI h0 qme0 qre1 z29) := hD
                exact rVret (u := z29) hx hb hr hlocks (by subst ez29 ex26 ex25 ex24 ex22 ez21; exact (((if_neg c1).trans ((if_pos c3).trans ((if_neg c4).trans ((if_pos c5).trans ((if_pos c23).trans ((if_pos c27).trans rfl))))))).symm) hK hP hD hS dX1_load_150
              · exact (c28 (by decide)).elim
            · refine lv_iload hx hb dX1_load_103 (lv_at hl 0 rfl) ?_
              refine lv_bipush (v := 8) hx hb dX1_load_105 (by decide) ?_
              refine lv_iload hx hb dX1_load_107 (lv_at hl 3 rfl) ?_
              refine lv_imul hx hb dX1_load_109 ?_
              refine lv_iconst (v := 1) hx hb dX1_load_110 (by decide) ?_
              refine lv_isub hx hb dX1_load_111 ?_
              refine W.callR (W.runS (As := [.int x26, .int (((8 : Int32) * (2 : Int32)) - (1 : Int32))]) (rest := []) ⟨hx, hb, hml, hown, hts⟩ (cr_has l x26 (((8 : Int32) * (2 : Int32)) - (1 : Int32))) (cwS 2 hts (gS mL_1_42 mS_1_has mN_1 mB_1_has) rfl rfl rfl (by decide +kernel) ⟨Nat.le_of_ble_eq_true rfl, Nat.le_of_ble_eq_true rfl⟩) ⟨jblind, fun _ _ _ => ⟨rfl, trivial⟩⟩ rfl rfl hl.1 rfl (lv_room (Nat.le_of_ble_eq_true rfl)) dX1_load_112 ⟨Nat.zero_le _, Nat.zero_le _⟩) ?_
              refine W.eq (g2 := F0 m 115 ls (.int (r_has x26 (((8 : Int32) * (2 : Int32)) - (1 : Int32))) :: [])) rfl ?_
              refine lv_topi (fun x30 ex30 => ?_)
              refine lv_if_eq (tgt := 122) hx hb dX1_load_115 (by decide) (fun c31 => ?_) (fun c31 => ?_)
              · refine lv_iconst (v := 0) hx hb dX1_load_122 (by decide) ?_
                refine lv_istore (lv' := [(9, .int 0), (8, .int x26), (7, .int x25), (6, .int x22), (5, .int 2), (0, .ref h0), (1, .int p1), (2, .int p2), (3, .int p3), (4, .int p4)]) hx hb dX1_load_123 hl (by decide) rfl (fun ls hl => ?_)
                refine lv_aload_n hx hb dX1_load_125 rfl (lv_at hl 5 rfl) ?_
                refine lv_iload_n hx hb dX1_load_126 rfl (lv_at hl 8 rfl) ?_
                refine lv_iload hx hb dX1_load_127 (lv_at hl 0 rfl) ?_
                refine lv_if_eq (tgt := 145) hx hb dX1_load_129 (by decide) (fun c32 => ?_) (fun c32 => ?_)
                · refine lv_iload hx hb dX1_load_145 (lv_at hl 1 rfl) ?_
                  refine rMv (As := [.int p3, .int x26]) (rest := []) (f := r_set z21.2 p3 x26) ⟨hx, hb, hml, hown, hts⟩ (cr_set l dC dI cI h0 qme0 qre1 tN tB H.size z21.2 p3 x26 hp3) (cwV 2 hts (gV mL_1_112 mI_1_set mX_1_set mN_1 mB_1_set) rfl rfl rfl (by decide +kernel) ⟨Nat.le_of_ble_eq_true rfl, Nat.le_of_ble_eq_true rfl⟩) hK hP hD hS hZ rfl hl.1 rfl (Nat.le_of_ble_eq_true rfl) dX1_load_147 ⟨Nat.zero_le _, Nat.zero_le _⟩ (fun z33 ez33 H locs hP hD hS => ?_)
                  have hP : va_P (dC, dI) vwCl (rW cI h0 qme0 qre1 z33) H := hP
                  have hD : va_D (rA h0 qme0 qre1 s.heap.size) (rW cI h0 qme0 qre1 z33) := hD
                  exact rVret (u := z33) hx hb hr hlocks (by subst ez33 ex30 ex26 ex25 ex24 ex22 ez21; exact (((if_neg c1).trans ((if_pos c3).trans ((if_neg c4).trans ((if_pos c5).trans ((if_pos c23).trans ((if_neg c27).trans ((if_pos c31).trans rfl)))))))).symm) hK hP hD hS dX1_load_150
                · exact (c32 (by decide)).elim
              · refine lv_iconst (v := 1) hx hb dX1_load_118 (by decide) ?_
                refine lv_goto (tgt := 123) hx hb dX1_load_119 (by decide) ?_
                refine lv_istore (lv' := [(9, .int 1), (8, .int x26), (7, .int x25), (6, .int x22), (5, .int 2), (0, .ref h0), (1, .int p1), (2, .int p2), (3, .int p3), (4, .int p4)]) hx hb dX1_load_123 hl (by decide) rfl (fun ls hl => ?_)
                refine lv_aload_n hx hb dX1_load_125 rfl (lv_at hl 5 rfl) ?_
                refine lv_iload_n hx hb dX1_load_126 rfl (lv_at hl 8 rfl) ?_
                refine lv_iload hx hb dX1_load_127 (lv_at hl 0 rfl) ?_
                refine lv_if_eq (tgt := 145) hx hb dX1_load_129 (by decide) (fun c34 => ?_) (fun c34 => ?_)
                · exact absurd c34 (by decide)
                · refine lv_iload hx hb dX1_load_132 (lv_at hl 1 rfl) ?_
                  refine lv_iconst (v := 1) hx hb dX1_load_134 (by decide) ?_
                  refine lv_bipush (v := 8) hx hb dX1_load_135 (by decide) ?_
                  refine lv_iload hx hb dX1_load_137 (lv_at hl 4 rfl) ?_
                  refine lv_imul hx hb dX1_load_139 ?_
                  refine lv_ishl hx hb dX1_load_140 ?_
                  refine lv_isub hx hb dX1_load_141 ?_
                  refine lv_goto (tgt := 147) hx hb dX1_load_142 (by decide) ?_
                  refine rMv (As := [.int p3, .int (x26 - ((1 : Int32) <<< (((8 : Int32) * (2 : Int32)) &&& 31)))]) (rest := []) (f := r_set z21.2 p3 (x26 - ((1 : Int32) <<< (((8 : Int32) * (2 : Int32)) &&& 31)))) ⟨hx, hb, hml, hown, hts⟩ (cr_set l dC dI cI h0 qme0 qre1 tN tB H.size z21.2 p3 (x26 - ((1 : Int32) <<< (((8 : Int32) * (2 : Int32)) &&& 31))) hp3) (cwV 2 hts (gV mL_1_112 mI_1_set mX_1_set mN_1 mB_1_set) rfl rfl rfl (by decide +kernel) ⟨Nat.le_of_ble_eq_true rfl, Nat.le_of_ble_eq_true rfl⟩) hK hP hD hS hZ rfl hl.1 rfl (Nat.le_of_ble_eq_true rfl) dX1_load_147 ⟨Nat.zero_le _, Nat.zero_le _⟩ (fun z35 ez35 H locs hP hD hS => ?_)
                  have hP : va_P (dC, dI) vwCl (rW cI h0 qme0 qre1 z35) H := hP
                  have hD : va_D (rA h0 qme0 qre1 s.heap.size) (rW cI h0 qme0 qre1 z35) := hD
                  exact rVret (u := z35) hx hb hr hlocks (by subst ez35 ex30 ex26 ex25 ex24 ex22 ez21; exact (((if_neg c1).trans ((if_pos c3).trans ((if_neg c4).trans ((if_pos c5).trans ((if_pos c23).trans ((if_neg c27).trans ((if_neg c31).trans rfl)))))))).symm) hK hP hD hS dX1_load_150
          · exact rVret (u := z21.2) hx hb hr hlocks (by subst ex22 ez21; exact (((if_neg c1).trans ((if_pos c3).trans ((if_neg c4).trans ((if_pos c5).trans ((if_neg c23).trans rfl)))))).symm) hK hP hD hS dX1_load_59
      · refine lv_iconst (v := 1) hx hb dX1_load_23 (by decide) ?_
        refine lv_goto (tgt := 39) hx hb dX1_load_24 (by decide) ?_
        refine lv_istore (lv' := [(5, .int 1), (0, .ref h0), (1, .int p1), (2, .int p2), (3, .int p3), (4, .int p4)]) hx hb dX1_load_39 hl (by decide) rfl (fun ls hl => ?_)
        refine lv_aload_n hx hb dX1_load_41 rfl (lv_at hl 1 rfl) ?_
        refine lv_iload hx hb dX1_load_42 (lv_at hl 5 rfl) ?_
        refine lv_iload hx hb dX1_load_44 (lv_at hl 0 rfl) ?_
        refine lv_iconst (v := 1) hx hb dX1_load_46 (by decide) ?_
        refine rMi (As := [.int p4, .int 1, .int 1]) (rest := []) (f := r_reach st p4 (1 : Int32) (1 : Int32)) ⟨hx, hb, hml, hown, hts⟩ (cr_reach l dC dI cI h0 qme0 qre1 tN tB H.size st p4 (1 : Int32) (1 : Int32) (by decide)) (cwV 3 hts (gV mL_1_102 mI_1_reach mX_1_reach mN_1 mB_1_reach) rfl rfl rfl (by decide +kernel) ⟨Nat.le_of_ble_eq_true rfl, Nat.le_of_ble_eq_true rfl⟩) hK hP hD hS hZ rfl hl.1 rfl (Nat.le_of_ble_eq_true rfl) dX1_load_47 ⟨Nat.zero_le _, Nat.zero_le _⟩ (fun z36 ez36 H locs hP hD hS => ?_)
        have hP : va_P (dC, dI) vwCl (rW cI h0 qme0 qre1 z36.2) H := hP
        have hD : va_D (rA h0 qme0 qre1 s.heap.size) (rW cI h0 qme0 qre1 z36.2) := hD
        refine lv_topi (fun x37 ex37 => ?_)
        refine lv_istore (lv' := [(6, .int x37), (5, .int 1), (0, .ref h0), (1, .int p1), (2, .int p2), (3, .int p3), (4, .int p4)]) hx hb dX1_load_50 hl (by decide) rfl (fun ls hl => ?_)
        refine lv_aload_n hx hb dX1_load_52 rfl (lv_at hl 2 rfl) ?_
        refine va_get (D := (dC, dI)) (ci := 1) (v := .int z36.2.2.2.2.2.2.2.2.2.2.2.2.2.2.2.2.1) (C := "PagedHartModel") (T := TX1) (N := 18) hx hb hts mU1 hown hK hP 0 rfl rfl 15 (by decide) (hts _ mF_1_90) (fun _ h9 => h9) rfl dX1_load_53 ?_
        refine lv_if_eq (tgt := 60) hx hb dX1_load_56 (by decide) (fun c38 => ?_) (fun c38 => ?_)
        · refine lv_bipush (v := 8) hx hb dX1_load_60 (by decide) ?_
          refine lv_iload hx hb dX1_load_62 (lv_at hl 0 rfl) ?_
          refine lv_iconst (v := 0) hx hb dX1_load_64 (by decide) ?_
          refine lv_iconst (v := 1) hx hb dX1_load_65 (by decide) ?_
          refine W.callR (W.runS (As := [.int x37, .int 0, .int 1]) (rest := [.int 8]) ⟨hx, hb, hml, hown, hts⟩ (cr_bits l x37 (0 : Int32) (1 : Int32)) (cwS 3 hts (gS mL_1_46 mS_1_bits mN_1 mB_1_bits) rfl rfl rfl (by decide +kernel) ⟨Nat.le_of_ble_eq_true rfl, Nat.le_of_ble_eq_true rfl⟩) ⟨jblind, fun _ _ _ => ⟨rfl, trivial⟩⟩ rfl rfl hl.1 rfl (lv_room (Nat.le_of_ble_eq_true rfl)) dX1_load_66 ⟨Nat.zero_le _, Nat.zero_le _⟩) ?_
          refine W.eq (g2 := F0 m 69 ls (.int (r_bits x37 (0 : Int32) (1 : Int32)) :: [.int 8])) rfl ?_
          refine lv_topi (fun x39 ex39 => ?_)
          refine lv_imul hx hb dX1_load_69 ?_
          refine lv_topi (fun x40 ex40 => ?_)
          refine lv_istore (lv' := [(7, .int x40), (6, .int x37), (5, .int 1), (0, .ref h0), (1, .int p1), (2, .int p2), (3, .int p3), (4, .int p4)]) hx hb dX1_load_70 hl (by decide) rfl (fun ls hl => ?_)
          refine lv_aload_n hx hb dX1_load_72 rfl (lv_at hl 3 rfl) ?_
          refine va_get (D := (dC, dI)) (ci := 1) (v := .ref qme0) (C := "PagedHartModel") (T := TX1) (N := 18) hx hb hts mU1 hown hK hP 0 rfl rfl 1 (by decide) (hts _ mF_1_8) (fun _ h9 => h9) rfl dX1_load_73 ?_
          refine lv_iload hx hb dX1_load_76 (lv_at hl 1 rfl) ?_
          refine lv_iconst (v := 4) hx hb dX1_load_78 (by decide) ?_
          refine lv_idiv hx hb dX1_load_79 (by decide) ?_
          refine va_iald (D := (dC, dI)) hx hb hK hP 1 0 rfl rfl (by have h9 := c38; rw [ex37]; rw [ez36] at h9 ⊢; exact r_in3 _ _ _ _ h9) dX1_load_80 ?_
          refine lv_iload hx hb dX1_load_81 (lv_at hl 0 rfl) ?_
          refine lv_iload hx hb dX1_load_83 (lv_at hl 0 rfl) ?_
          refine lv_bipush (v := 8) hx hb dX1_load_85 (by decide) ?_
          refine lv_iload hx hb dX1_load_87 (lv_at hl 2 rfl) ?_
          refine lv_imul hx hb dX1_load_89 ?_
          refine lv_iadd hx hb dX1_load_90 ?_
          refine lv_iconst (v := 1) hx hb dX1_load_91 (by decide) ?_
          refine lv_isub hx hb dX1_load_92 ?_
          refine W.callR (W.runS (As := [.int (z36.2.2.1 (x37 / (4 : Int32)).toNatClampNeg), .int x40, .int ((x40 + ((8 : Int32) * (1 : Int32))) - (1 : Int32))]) (rest := []) ⟨hx, hb, hml, hown, hts⟩ (cr_bits l (z36.2.2.1 (x37 / (4 : Int32)).toNatClampNeg) x40 ((x40 + ((8 : Int32) * (1 : Int32))) - (1 : Int32))) (cwS 3 hts (gS mL_1_46 mS_1_bits mN_1 mB_1_bits) rfl rfl rfl (by decide +kernel) ⟨Nat.le_of_ble_eq_true rfl, Nat.le_of_ble_eq_true rfl⟩) ⟨jblind, fun _ _ _ => ⟨rfl, trivial⟩⟩ rfl rfl hl.1 rfl (lv_room (Nat.le_of_ble_eq_true rfl)) dX1_load_93 ⟨Nat.zero_le _, Nat.zero_le _⟩) ?_
          refine W.eq (g2 := F0 m 96 ls (.int (r_bits (z36.2.2.1 (x37 / (4 : Int32)).toNatClampNeg) x40 ((x40 + ((8 : Int32) * (1 : Int32))) - (1 : Int32))) :: [])) rfl ?_
          refine lv_topi (fun x41 ex41 => ?_)
          refine lv_istore (lv' := [(8, .int x41), (7, .int x40), (6, .int x37), (5, .int 1), (0, .ref h0), (1, .int p1), (2, .int p2), (3, .int p3), (4, .int p4)]) hx hb dX1_load_96 hl (by decide) rfl (fun ls hl => ?_)
          refine lv_iload_n hx hb dX1_load_98 rfl (lv_at hl 6 rfl) ?_
          refine lv_iconst (v := 2) hx hb dX1_load_99 (by decide) ?_
          refine lv_icmp_ge (tgt := 122) hx hb dX1_load_100 (by decide) (fun c42 => ?_) (fun c42 => ?_)
          · refine lv_iconst (v := 0) hx hb dX1_load_122 (by decide) ?_
            refine lv_istore (lv' := [(9, .int 0), (8, .int x41), (7, .int x40), (6, .int x37), (5, .int 1), (0, .ref h0), (1, .int p1), (2, .int p2), (3, .int p3), (4, .int p4)]) hx hb dX1_load_123 hl (by decide) rfl (fun ls hl => ?_)
            refine lv_aload_n hx hb dX1_load_125 rfl (lv_at hl 5 rfl) ?_
            refine lv_iload_n hx hb dX1_load_126 rfl (lv_at hl 8 rfl) ?_
            refine lv_iload hx hb dX1_load_127 (lv_at hl 0 rfl) ?_
            refine lv_if_eq (tgt := 145) hx hb dX1_load_129 (by decide) (fun c43 => ?_) (fun c43 => ?_)
            · refine lv_iload hx hb dX1_load_145 (lv_at hl 1 rfl) ?_
              refine rMv (As := [.int p3, .int x41]) (rest := []) (f := r_set z36.2 p3 x41) ⟨hx, hb, hml, hown, hts⟩ (cr_set l dC dI cI h0 qme0 qre1 tN tB H.size z36.2 p3 x41 hp3) (cwV 2 hts (gV mL_1_112 mI_1_set mX_1_set mN_1 mB_1_set) rfl rfl rfl (by decide +kernel) ⟨Nat.le_of_ble_eq_true rfl, Nat.le_of_ble_eq_true rfl⟩) hK hP hD hS hZ rfl hl.1 rfl (Nat.le_of_ble_eq_true rfl) dX1_load_147 ⟨Nat.zero_le _, Nat.zero_le _⟩ (fun z44 ez44 H locs hP hD hS => ?_)
              have hP : va_P (dC, dI) vwCl (rW cI h0 qme0 qre1 z44) H := hP
              have hD : va_D (rA h0 qme0 qre1 s.heap.size) (rW cI h0 qme0 qre1 z44) := hD
              exact rVret (u := z44) hx hb hr hlocks (by subst ez44 ex41 ex40 ex39 ex37 ez36; exact (((if_neg c1).trans ((if_pos c3).trans ((if_pos c4).trans ((if_pos c38).trans ((if_pos c42).trans rfl)))))).symm) hK hP hD hS dX1_load_150
            · exact (c43 (by decide)).elim
          · refine lv_iload hx hb dX1_load_103 (lv_at hl 0 rfl) ?_
            refine lv_bipush (v := 8) hx hb dX1_load_105 (by decide) ?_
            refine lv_iload hx hb dX1_load_107 (lv_at hl 3 rfl) ?_
            refine lv_imul hx hb dX1_load_109 ?_
            refine lv_iconst (v := 1) hx hb dX1_load_110 (by decide) ?_
            refine lv_isub hx hb dX1_load_111 ?_
            refine W.callR (W.runS (As := [.int x41, .int (((8 : Int32) * (1 : Int32)) - (1 : Int32))]) (rest := []) ⟨hx, hb, hml, hown, hts⟩ (cr_has l x41 (((8 : Int32) * (1 : Int32)) - (1 : Int32))) (cwS 2 hts (gS mL_1_42 mS_1_has mN_1 mB_1_has) rfl rfl rfl (by decide +kernel) ⟨Nat.le_of_ble_eq_true rfl, Nat.le_of_ble_eq_true rfl⟩) ⟨jblind, fun _ _ _ => ⟨rfl, trivial⟩⟩ rfl rfl hl.1 rfl (lv_room (Nat.le_of_ble_eq_true rfl)) dX1_load_112 ⟨Nat.zero_le _, Nat.zero_le _⟩) ?_
            refine W.eq (g2 := F0 m 115 ls (.int (r_has x41 (((8 : Int32) * (1 : Int32)) - (1 : Int32))) :: [])) rfl ?_
            refine lv_topi (fun x45 ex45 => ?_)
            refine lv_if_eq (tgt := 122) hx hb dX1_load_115 (by decide) (fun c46 => ?_) (fun c46 => ?_)
            · refine lv_iconst (v := 0) hx hb dX1_load_122 (by decide) ?_
              refine lv_istore (lv' := [(9, .int 0), (8, .int x41), (7, .int x40), (6, .int x37), (5, .int 1), (0, .ref h0), (1, .int p1), (2, .int p2), (3, .int p3), (4, .int p4)]) hx hb dX1_load_123 hl (by decide) rfl (fun ls hl => ?_)
              refine lv_aload_n hx hb dX1_load_125 rfl (lv_at hl 5 rfl) ?_
              refine lv_iload_n hx hb dX1_load_126 rfl (lv_at hl 8 rfl) ?_
              refine lv_iload hx hb dX1_load_127 (lv_at hl 0 rfl) ?_
              refine lv_if_eq (tgt := 145) hx hb dX1_load_129 (by decide) (fun c47 => ?_) (fun c47 => ?_)
              · refine lv_iload hx hb dX1_load_145 (lv_at hl 1 rfl) ?_
                refine rMv (As := [.int p3, .int x41]) (rest := []) (f := r_set z36.2 p3 x41) ⟨hx, hb, hml, hown, hts⟩ (cr_set l dC dI cI h0 qme0 qre1 tN tB H.size z36.2 p3 x41 hp3) (cwV 2 hts (gV mL_1_112 mI_1_set mX_1_set mN_1 mB_1_set) rfl rfl rfl (by decide +kernel) ⟨Nat.le_of_ble_eq_true rfl, Nat.le_of_ble_eq_true rfl⟩) hK hP hD hS hZ rfl hl.1 rfl (Nat.le_of_ble_eq_true rfl) dX1_load_147 ⟨Nat.zero_le _, Nat.zero_le _⟩ (fun z48 ez48 H locs hP hD hS => ?_)
                have hP : va_P (dC, dI) vwCl (rW cI h0 qme0 qre1 z48) H := hP
                have hD : va_D (rA h0 qme0 qre1 s.heap.size) (rW cI h0 qme0 qre1 z48) := hD
                exact rVret (u := z48) hx hb hr hlocks (by subst ez48 ex45 ex41 ex40 ex39 ex37 ez36; exact (((if_neg c1).trans ((if_pos c3).trans ((if_pos c4).trans ((if_pos c38).trans ((if_neg c42).trans ((if_pos c46).trans rfl))))))).symm) hK hP hD hS dX1_load_150
              · exact (c47 (by decide)).elim
            · refine lv_iconst (v := 1) hx hb dX1_load_118 (by decide) ?_
              refine lv_goto (tgt := 123) hx hb dX1_load_119 (by decide) ?_
              refine lv_istore (lv' := [(9, .int 1), (8, .int x41), (7, .int x40), (6, .int x37), (5, .int 1), (0, .ref h0), (1, .int p1), (2, .int p2), (3, .int p3), (4, .int p4)]) hx hb dX1_load_123 hl (by decide) rfl (fun ls hl => ?_)
              refine lv_aload_n hx hb dX1_load_125 rfl (lv_at hl 5 rfl) ?_
              refine lv_iload_n hx hb dX1_load_126 rfl (lv_at hl 8 rfl) ?_
              refine lv_iload hx hb dX1_load_127 (lv_at hl 0 rfl) ?_
              refine lv_if_eq (tgt := 145) hx hb dX1_load_129 (by decide) (fun c49 => ?_) (fun c49 => ?_)
              · exact absurd c49 (by decide)
              · refine lv_iload hx hb dX1_load_132 (lv_at hl 1 rfl) ?_
                refine lv_iconst (v := 1) hx hb dX1_load_134 (by decide) ?_
                refine lv_bipush (v := 8) hx hb dX1_load_135 (by decide) ?_
                refine lv_iload hx hb dX1_load_137 (lv_at hl 4 rfl) ?_
                refine lv_imul hx hb dX1_load_139 ?_
                refine lv_ishl hx hb dX1_load_140 ?_
                refine lv_isub hx hb dX1_load_141 ?_
                refine lv_goto (tgt := 147) hx hb dX1_load_142 (by decide) ?_
                refine rMv (As := [.int p3, .int (x41 - ((1 : Int32) <<< (((8 : Int32) * (1 : Int32)) &&& 31)))]) (rest := []) (f := r_set z36.2 p3 (x41 - ((1 : Int32) <<< (((8 : Int32) * (1 : Int32)) &&& 31)))) ⟨hx, hb, hml, hown, hts⟩ (cr_set l dC dI cI h0 qme0 qre1 tN tB H.size z36.2 p3 (x41 - ((1 : Int32) <<< (((8 : Int32) * (1 : Int32)) &&& 31))) hp3) (cwV 2 hts (gV mL_1_112 mI_1_set mX_1_set mN_1 mB_1_set) rfl rfl rfl (by decide +kernel) ⟨Nat.le_of_ble_eq_true rfl, Nat.le_of_ble_eq_true rfl⟩) hK hP hD hS hZ rfl hl.1 rfl (Nat.le_of_ble_eq_true rfl) dX1_load_147 ⟨Nat.zero_le _, Nat.zero_le _⟩ (fun z50 ez50 H locs hP hD hS => ?_)
                have hP : va_P (dC, dI) vwCl (rW cI h0 qme0 qre1 z50) H := hP
                have hD : va_D (rA h0 qme0 qre1 s.heap.size) (rW cI h0 qme0 qre1 z50) := hD
                exact rVret (u := z50) hx hb hr hlocks (by subst ez50 ex45 ex41 ex40 ex39 ex37 ez36; exact (((if_neg c1).trans ((if_pos c3).trans ((if_pos c4).trans ((if_pos c38).trans ((if_neg c42).trans ((if_neg c46).trans rfl))))))).symm) hK hP hD hS dX1_load_150
        · exact rVret (u := z36.2) hx hb hr hlocks (by subst ex37 ez36; exact (((if_neg c1).trans ((if_pos c3).trans ((if_pos c4).trans ((if_neg c38).trans rfl))))).symm) hK hP hD hS dX1_load_59
    · refine lv_aload_n hx hb dX1_load_10 rfl (lv_at hl 0 rfl) ?_
      refine lv_iconst (v := 2) hx hb dX1_load_11 (by decide) ?_
      refine lv_iload_n hx hb dX1_load_12 rfl (lv_at hl 1 rfl) ?_
      refine rMv (As := [.int 2, .int p1]) (rest := []) (f := r_trap st (2 : Int32) p1) ⟨hx, hb, hml, hown, hts⟩ (cr_trap l dC dI cI h0 qme0 qre1 tN tB H.size st (2 : Int32) p1) (cwV 2 hts (gV mL_1_93 mI_1_trap mX_1_trap mN_1 mB_1_trap) rfl rfl rfl (by decide +kernel) ⟨Nat.le_of_ble_eq_true rfl, Nat.le_of_ble_eq_true rfl⟩) hK hP hD hS hZ rfl hl.1 rfl (Nat.le_of_ble_eq_true rfl) dX1_load_13 ⟨Nat.zero_le _, Nat.zero_le _⟩ (fun z51 ez51 H locs hP hD hS => ?_)
      have hP : va_P (dC, dI) vwCl (rW cI h0 qme0 qre1 z51) H := hP
      have hD : va_D (rA h0 qme0 qre1 s.heap.size) (rW cI h0 qme0 qre1 z51) := hD
      exact rVret (u := z51) hx hb hr hlocks (by subst ez51; exact (((if_neg c1).trans ((if_neg c3).trans rfl))).symm) hK hP hD hS dX1_load_16

def r_store (st : RS) (p1 : Int32) (p2 : Int32) (p3 : Int32) (p4 : Int32) : RS :=
  if p2 ≤ (2 : Int32) then
    if p2 = 0 then
      let z24 : Int32 × RS := r_reach st p3 (1 : Int32) (2 : Int32)
      let x25 : Int32 := z24.1
      if z24.2.2.2.2.2.2.2.2.2.2.2.2.2.2.2.2.1 = 0 then
        let x27 : Int32 := r_bits x25 (0 : Int32) (1 : Int32)
        let x28 : Int32 := (8 : Int32) * x27
        let y29 : Int64 := ((1 : Int64) <<< (((8 : Int32) * (1 : Int32)).toInt64 &&& 63)) - (1 : Int64)
        let y30 : Int64 := y29 <<< (x28.toInt64 &&& 63)
        let y31 : Int64 := r_plain (z24.2.2.1 (x25 / (4 : Int32)).toNatClampNeg)
        let y32 : Int64 := r_plain p4
        let x33 : Int32 := ((y31 - (y31 &&& y30)) + ((y32 <<< (x28.toInt64 &&& 63)) &&& y30)).toInt32
        (z24.2.1, upd z24.2.2.1 (x25 / (4 : Int32)).toNatClampNeg x33, z24.2.2.2.1, z24.2.2.2.2.1, z24.2.2.2.2.2.1, z24.2.2.2.2.2.2.1, z24.2.2.2.2.2.2.2.1, z24.2.2.2.2.2.2.2.2.1, z24.2.2.2.2.2.2.2.2.2.1, z24.2.2.2.2.2.2.2.2.2.2.1, z24.2.2.2.2.2.2.2.2.2.2.2.1, z24.2.2.2.2.2.2.2.2.2.2.2.2.1, z24.2.2.2.2.2.2.2.2.2.2.2.2.2.1, z24.2.2.2.2.2.2.2.2.2.2.2.2.2.2.1, z24.2.2.2.2.2.2.2.2.2.2.2.2.2.2.2.1, z24.2.2.2.2.2.2.2.2.2.2.2.2.2.2.2.2.1, z24.2.2.2.2.2.2.2.2.2.2.2.2.2.2.2.2.2.1, z24.2.2.2.2.2.2.2.2.2.2.2.2.2.2.2.2.2.2)
      else
        z24.2
    else
      if p2 = (1 : Int32) then
        let z14 : Int32 × RS := r_reach st p3 (2 : Int32) (2 : Int32)
        let x15 : Int32 := z14.1
        if z14.2.2.2.2.2.2.2.2.2.2.2.2.2.2.2.2.1 = 0 then
          let x17 : Int32 := r_bits x15 (0 : Int32) (1 : Int32)
          let x18 : Int32 := (8 : Int32) * x17
          let y19 : Int64 := ((1 : Int64) <<< (((8 : Int32) * (2 : Int32)).toInt64 &&& 63)) - (1 : Int64)
          let y20 : Int64 := y19 <<< (x18.toInt64 &&& 63)
          let y21 : Int64 := r_plain (z14.2.2.1 (x15 / (4 : Int32)).toNatClampNeg)
          let y22 : Int64 := r_plain p4
          let x23 : Int32 := ((y21 - (y21 &&& y20)) + ((y22 <<< (x18.toInt64 &&& 63)) &&& y20)).toInt32
          (z14.2.1, upd z14.2.2.1 (x15 / (4 : Int32)).toNatClampNeg x23, z14.2.2.2.1, z14.2.2.2.2.1, z14.2.2.2.2.2.1, z14.2.2.2.2.2.2.1, z14.2.2.2.2.2.2.2.1, z14.2.2.2.2.2.2.2.2.1, z14.2.2.2.2.2.2.2.2.2.1, z14.2.2.2.2.2.2.2.2.2.2.1, z14.2.2.2.2.2.2.2.2.2.2.2.1, z14.2.2.2.2.2.2.2.2.2.2.2.2.1, z14.2.2.2.2.2.2.2.2.2.2.2.2.2.1, z14.2.2.2.2.2.2.2.2.2.2.2.2.2.2.1, z14.2.2.2.2.2.2.2.2.2.2.2.2.2.2.2.1, z14.2.2.2.2.2.2.2.2.2.2.2.2.2.2.2.2.1, z14.2.2.2.2.2.2.2.2.2.2.2.2.2.2.2.2.2.1, z14.2.2.2.2.2.2.2.2.2.2.2.2.2.2.2.2.2.2)
        else
          z14.2
      else
        let z4 : Int32 × RS := r_reach st p3 (4 : Int32) (2 : Int32)
        let x5 : Int32 := z4.1
        if z4.2.2.2.2.2.2.2.2.2.2.2.2.2.2.2.2.1 = 0 then
          let x7 : Int32 := r_bits x5 (0 : Int32) (1 : Int32)
          let x8 : Int32 := (8 : Int32) * x7
          let y9 : Int64 := ((1 : Int64) <<< (((8 : Int32) * (4 : Int32)).toInt64 &&& 63)) - (1 : Int64)
          let y10 : Int64 := y9 <<< (x8.toInt64 &&& 63)
          let y11 : Int64 := r_plain (z4.2.2.1 (x5 / (4 : Int32)).toNatClampNeg)
          let y12 : Int64 := r_plain p4
          let x13 : Int32 := ((y11 - (y11 &&& y10)) + ((y12 <<< (x8.toInt64 &&& 63)) &&& y10)).toInt32
          (z4.2.1, upd z4.2.2.1 (x5 / (4 : Int32)).toNatClampNeg x13, z4.2.2.2.1, z4.2.2.2.2.1, z4.2.2.2.2.2.1, z4.2.2.2.2.2.2.1, z4.2.2.2.2.2.2.2.1, z4.2.2.2.2.2.2.2.2.1, z4.2.2.2.2.2.2.2.2.2.1, z4.2.2.2.2.2.2.2.2.2.2.1, z4.2.2.2.2.2.2.2.2.2.2.2.1, z4.2.2.2.2.2.2.2.2.2.2.2.2.1, z4.2.2.2.2.2.2.2.2.2.2.2.2.2.1, z4.2.2.2.2.2.2.2.2.2.2.2.2.2.2.1, z4.2.2.2.2.2.2.2.2.2.2.2.2.2.2.2.1, z4.2.2.2.2.2.2.2.2.2.2.2.2.2.2.2.2.1, z4.2.2.2.2.2.2.2.2.2.2.2.2.2.2.2.2.2.1, z4.2.2.2.2.2.2.2.2.2.2.2.2.2.2.2.2.2.2)
        else
          z4.2
  else
    let z34 : RS := r_trap st (2 : Int32) p1
    z34
set_option maxHeartbeats 4000000 in
set_option maxRecDepth 100000 in
theorem cr_store (l : Launch) (dC : Nat → ClassId) (dI : Nat → Nat → Nat) (cI h0 qme0 qre1 tN tB : Nat) (sz : Nat) (st : RS) (p1 : Int32) (p2 : Int32) (p3 : Int32) (p4 : Int32)  : Met l yX1_store (.code yX1_store cX1_store 12 none :: gBIG) ({ frames := 5, cells := 0, slots := 0, locals := 116 }) (va_Pc [.ref h0, .int p1, .int p2, .int p3, .int p4] (rPre dC dI cI h0 qme0 qre1 tN tB sz st)) (va_Qv (fun v => v = r_store st p1 p2 p3 p4) (rB dC dI cI h0 qme0 qre1 (rA h0 qme0 qre1 sz)) (rA h0 qme0 qre1 sz)) 0 0 (rA h0 qme0 qre1 sz) := by
  refine Met.ofW (cc := cX1_store) (maxL := 12) (ret := none) (by decide) rfl ?_
  intro p e s m args below meth c s₁ B hml hv
  obtain ⟨rfl, hsz, hP, hK, hD0, hZ⟩ := hv
  have hx := B.exec
  have hb := B.bytes
  have hr := B.returns
  have hts : ∀ w ∈ gBIG, w.before _ s = true := fun w h => atoms_spec (ws := (.code yX1_store cX1_store 12 none :: gBIG)) B.pre w (List.mem_cons_of_mem _ h)
  have hown : s.vm.findClass "PagedHartModel" = some m.cls := findClass_of_methodNamed B.named
  have hlocks := B.notSynchronized
  subst hsz
  have hD : va_D (rA h0 qme0 qre1 s.heap.size) (rW cI h0 qme0 qre1 st) := rD hD0
  have hS : va_S (rA h0 qme0 qre1 s.heap.size) s.heap s.heap [] := va_S.rf
  have hP : va_P (dC, dI) vwCl (rW cI h0 qme0 qre1 st) s.heap := hP
  have hl := lv_entry ([.ref h0, .int p1, .int p2, .int p3, .int p4]) (n := 12) (Nat.le_of_ble_eq_true rfl)
  rw [lg_entry_eq]
  generalize (lg_sl ([.ref h0, .int p1, .int p2, .int p3, .int p4]) ++ List.replicate (12 - (lg_sl ([.ref h0, .int p1, .int p2, .int p3, .int p4])).length) Slot.unset).toArray = ls at hl ⊢
  refine jgo (P := fun H locs => va_P (dC, dI) vwCl (rW cI h0 qme0 qre1 st) H ∧ va_S (rA h0 qme0 qre1 s.heap.size) s.heap H locs) ⟨hP, hS⟩ (fun H locs hPS => ?_)
  obtain ⟨hP, hS⟩ := hPS
  have hl : lv_has ls 12 [(0, .ref h0), (1, .int p1), (2, .int p2), (3, .int p3), (4, .int p4)] := hl
  refine lv_iload_n hx hb dX1_store_0 rfl (lv_at hl 2 rfl) ?_
  refine lv_iconst (v := 2) hx hb dX1_store_1 (by decide) ?_
  refine lv_icmp_le (tgt := 12) hx hb dX1_store_2 (by decide) (fun c1 => ?_) (fun c1 => ?_)
  · refine lv_iload_n hx hb dX1_store_12 rfl (lv_at hl 2 rfl) ?_
    refine lv_if_ne (tgt := 20) hx hb dX1_store_13 (by decide) (fun c2 => ?_) (fun c2 => ?_)
    · refine lv_iload_n hx hb dX1_store_20 rfl (lv_at hl 2 rfl) ?_
      refine lv_iconst (v := 1) hx hb dX1_store_21 (by decide) ?_
      refine lv_icmp_ne (tgt := 29) hx hb dX1_store_22 (by decide) (fun c3 => ?_) (fun c3 => ?_)
      · refine lv_iconst (v := 4) hx hb dX1_store_29 (by decide) ?_
        refine lv_istore (lv' := [(5, .int 4), (0, .ref h0), (1, .int p1), (2, .int p2), (3, .int p3), (4, .int p4)]) hx hb dX1_store_30 hl (by decide) rfl (fun ls hl => ?_)
        refine lv_aload_n hx hb dX1_store_32 rfl (lv_at hl 1 rfl) ?_
        refine lv_iload_n hx hb dX1_store_33 rfl (lv_at hl 4 rfl) ?_
        refine lv_iload hx hb dX1_store_34 (lv_at hl 0 rfl) ?_
        refine lv_iconst (v := 2) hx hb dX1_store_36 (by decide) ?_
        refine rMi (As := [.int p3, .int 4, .int 2]) (rest := []) (f := r_reach st p3 (4 : Int32) (2 : Int32)) ⟨hx, hb, hml, hown, hts⟩ (cr_reach l dC dI cI h0 qme0 qre1 tN tB H.size st p3 (4 : Int32) (2 : Int32) (by decide)) (cwV 3 hts (gV mL_1_102 mI_1_reach mX_1_reach mN_1 mB_1_reach) rfl rfl rfl (by decide +kernel) ⟨Nat.le_of_ble_eq_true rfl, Nat.le_of_ble_eq_true rfl⟩) hK hP hD hS hZ rfl hl.1 rfl (Nat.le_of_ble_eq_true rfl) dX1_store_37 ⟨Nat.zero_le _, Nat.zero_le _⟩ (fun z4 ez4 H locs hP hD hS => ?_)
        have hP : va_P (dC, dI) vwCl (rW cI h0 qme0 qre1 z4.2) H := hP
        have hD : va_D (rA h0 qme0 qre1 s.heap.size) (rW cI h0 qme0 qre1 z4.2) := hD
        refine lv_topi (fun x5 ex5 => ?_)
        refine lv_istore (lv' := [(6, .int x5), (5, .int 4), (0, .ref h0), (1, .int p1), (2, .int p2), (3, .int p3), (4, .int p4)]) hx hb dX1_store_40 hl (by decide) rfl (fun ls hl => ?_)
        refine lv_aload_n hx hb dX1_store_42 rfl (lv_at hl 2 rfl) ?_
        refine va_get (D := (dC, dI)) (ci := 1) (v := .int z4.2.2.2.2.2.2.2.2.2.2.2.2.2.2.2.2.1) (C := "PagedHartModel") (T := TX1) (N := 18) hx hb hts mU1 hown hK hP 0 rfl rfl 15 (by decide) (hts _ mF_1_90) (fun _ h9 => h9) rfl dX1_store_43 ?_
        refine lv_if_eq (tgt := 50) hx hb dX1_store_46 (by decide) (fun c6 => ?_) (fun c6 => ?_)
        · refine lv_bipush (v := 8) hx hb dX1_store_50 (by decide) ?_
          refine lv_iload hx hb dX1_store_52 (lv_at hl 0 rfl) ?_
          refine lv_iconst (v := 0) hx hb dX1_store_54 (by decide) ?_
          refine lv_iconst (v := 1) hx hb dX1_store_55 (by decide) ?_
          refine W.callR (W.runS (As := [.int x5, .int 0, .int 1]) (rest := [.int 8]) ⟨hx, hb, hml, hown, hts⟩ (cr_bits l x5 (0 : Int32) (1 : Int32)) (cwS 3 hts (gS mL_1_46 mS_1_bits mN_1 mB_1_bits) rfl rfl rfl (by decide +kernel) ⟨Nat.le_of_ble_eq_true rfl, Nat.le_of_ble_eq_true rfl⟩) ⟨jblind, fun _ _ _ => ⟨rfl, trivial⟩⟩ rfl rfl hl.1 rfl (lv_room (Nat.le_of_ble_eq_true rfl)) dX1_store_56 ⟨Nat.zero_le _, Nat.zero_le _⟩) ?_
          refine W.eq (g2 := F0 m 59 ls (.int (r_bits x5 (0 : Int32) (1 : Int32)) :: [.int 8])) rfl ?_
          refine lv_topi (fun x7 ex7 => ?_)
          refine lv_imul hx hb dX1_store_59 ?_
          refine lv_topi (fun x8 ex8 => ?_)
          refine lv_istore (lv' := [(7, .int x8), (6, .int x5), (5, .int 4), (0, .ref h0), (1, .int p1), (2, .int p2), (3, .int p3), (4, .int p4)]) hx hb dX1_store_60 hl (by decide) rfl (fun ls hl => ?_)
          refine lv_lconst (v := 1) hx hb dX1_store_62 (by decide) ?_
          refine lv_bipush (v := 8) hx hb dX1_store_63 (by decide) ?_
          refine lv_iload hx hb dX1_store_65 (lv_at hl 2 rfl) ?_
          refine lv_imul hx hb dX1_store_67 ?_
          refine lv_lshl (v := (1 : Int64) <<< (((8 : Int32) * (4 : Int32)).toInt64 &&& 63)) hx hb dX1_store_68 rfl ?_
          refine lv_lconst (v := 1) hx hb dX1_store_69 (by decide) ?_
          refine lv_lsub hx hb dX1_store_70 ?_
          refine lv_topl (fun y9 ey9 => ?_)
          refine lv_iload hx hb dX1_store_71 (lv_at hl 0 rfl) ?_
          refine lv_lshl (v := y9 <<< (x8.toInt64 &&& 63)) hx hb dX1_store_73 rfl ?_
          refine lv_topl (fun y10 ey10 => ?_)
          refine lv_lstore (lv' := [(8, .long y10), (7, .int x8), (6, .int x5), (5, .int 4), (0, .ref h0), (1, .int p1), (2, .int p2), (3, .int p3), (4, .int p4)]) hx hb dX1_store_74 hl (by decide) rfl (fun ls hl => ?_)
          refine lv_aload_n hx hb dX1_store_76 rfl (lv_at hl 4 rfl) ?_
          refine va_get (D := (dC, dI)) (ci := 1) (v := .ref qme0) (C := "PagedHartModel") (T := TX1) (N := 18) hx hb hts mU1 hown hK hP 0 rfl rfl 1 (by decide) (hts _ mF_1_8) (fun _ h9 => h9) rfl dX1_store_77 ?_
          refine lv_iload hx hb dX1_store_80 (lv_at hl 2 rfl) ?_
          refine lv_iconst (v := 4) hx hb dX1_store_82 (by decide) ?_
          refine lv_idiv hx hb dX1_store_83 (by decide) ?_
          refine va_iald (D := (dC, dI)) hx hb hK hP 1 0 rfl rfl (by have h9 := c6; rw [ex5]; rw [ez4] at h9 ⊢; exact r_in3 _ _ _ _ h9) dX1_store_84 ?_
          refine jcallRl (W.runS (As := [.int (z4.2.2.1 (x5 / (4 : Int32)).toNatClampNeg)]) (rest := []) ⟨hx, hb, hml, hown, hts⟩ (cr_plain l (z4.2.2.1 (x5 / (4 : Int32)).toNatClampNeg)) (cwS 1 hts (gS mL_1_36 mS_1_plain mN_1 mB_1_plain) rfl rfl rfl (by decide +kernel) ⟨Nat.le_of_ble_eq_true rfl, Nat.le_of_ble_eq_true rfl⟩) ⟨jblind, fun _ _ _ => ⟨rfl, trivial⟩⟩ rfl rfl hl.1 rfl (lv_room (Nat.le_of_ble_eq_true rfl)) dX1_store_85 ⟨Nat.zero_le _, Nat.zero_le _⟩) ?_
          refine lv_topl (fun y11 ey11 => ?_)
          refine lv_lstore (lv' := [(10, .long y11), (8, .long y10), (7, .int x8), (6, .int x5), (5, .int 4), (0, .ref h0), (1, .int p1), (2, .int p2), (3, .int p3), (4, .int p4)]) hx hb dX1_store_88 hl (by decide) rfl (fun ls hl => ?_)
          refine lv_aload_n hx hb dX1_store_90 rfl (lv_at hl 5 rfl) ?_
          refine va_get (D := (dC, dI)) (ci := 1) (v := .ref qme0) (C := "PagedHartModel") (T := TX1) (N := 18) hx hb hts mU1 hown hK hP 0 rfl rfl 1 (by decide) (hts _ mF_1_8) (fun _ h9 => h9) rfl dX1_store_91 ?_
          refine lv_iload hx hb dX1_store_94 (lv_at hl 3 rfl) ?_
          refine lv_iconst (v := 4) hx hb dX1_store_96 (by decide) ?_
          refine lv_idiv hx hb dX1_store_97 (by decide) ?_
          refine lv_lload hx hb dX1_store_98 (lv_at hl 0 rfl) ?_
          refine lv_lload hx hb dX1_store_100 (lv_at hl 0 rfl) ?_
          refine lv_lload hx hb dX1_store_102 (lv_at hl 1 rfl) ?_
          refine lv_land hx hb dX1_store_104 ?_
          refine lv_lsub hx hb dX1_store_105 ?_
          refine lv_iload hx hb dX1_store_106 (lv_at hl 9 rfl) ?_
          refine jcallRl (W.runS (As := [.int p4]) (rest := [.long (y11 - (y11 &&& y10)), .int (x5 / (4 : Int32)), .ref qme0]) ⟨hx, hb, hml, hown, hts⟩ (cr_plain l p4) (cwS 1 hts (gS mL_1_36 mS_1_plain mN_1 mB_1_plain) rfl rfl rfl (by decide +kernel) ⟨Nat.le_of_ble_eq_true rfl, Nat.le_of_ble_eq_true rfl⟩) ⟨jblind, fun _ _ _ => ⟨rfl, trivial⟩⟩ rfl rfl hl.1 rfl (lv_room (Nat.le_of_ble_eq_true rfl)) dX1_store_108 ⟨Nat.zero_le _, Nat.zero_le _⟩) ?_
          refine lv_topl (fun y12 ey12 => ?_)
          refine lv_iload hx hb dX1_store_111 (lv_at hl 2 rfl) ?_
          refine lv_lshl (v := y12 <<< (x8.toInt64 &&& 63)) hx hb dX1_store_113 rfl ?_
          refine lv_lload hx hb dX1_store_114 (lv_at hl 1 rfl) ?_
          refine lv_land hx hb dX1_store_116 ?_
          refine lv_ladd hx hb dX1_store_117 ?_
          refine lv_l2i (v := ((y11 - (y11 &&& y10)) + ((y12 <<< (x8.toInt64 &&& 63)) &&& y10)).toInt32) hx hb dX1_store_118 rfl ?_
          refine lv_topi (fun x13 ex13 => ?_)
          refine va_iast (D := (dC, dI)) hx hb hK hP hD hS 1 0 rfl rfl (by have h9 := c6; rw [ex5]; rw [ez4] at h9 ⊢; exact r_in3 _ _ _ _ h9) dX1_store_119 (fun H locs hP hD hS => ?_)
          have hP : va_P (dC, dI) vwCl (rW cI h0 qme0 qre1 (z4.2.1, upd z4.2.2.1 (x5 / (4 : Int32)).toNatClampNeg x13, z4.2.2.2.1, z4.2.2.2.2.1, z4.2.2.2.2.2.1, z4.2.2.2.2.2.2.1, z4.2.2.2.2.2.2.2.1, z4.2.2.2.2.2.2.2.2.1, z4.2.2.2.2.2.2.2.2.2.1, z4.2.2.2.2.2.2.2.2.2.2.1, z4.2.2.2.2.2.2.2.2.2.2.2.1, z4.2.2.2.2.2.2.2.2.2.2.2.2.1, z4.2.2.2.2.2.2.2.2.2.2.2.2.2.1, z4.2.2.2.2.2.2.2.2.2.2.2.2.2.2.1, z4.2.2.2.2.2.2.2.2.2.2.2.2.2.2.2.1, z4.2.2.2.2.2.2.2.2.2.2.2.2.2.2.2.2.1, z4.2.2.2.2.2.2.2.2.2.2.2.2.2.2.2.2.2.1, z4.2.2.2.2.2.2.2.2.2.2.2.2.2.2.2.2.2.2)) H := hP
          have hD : va_D (rA h0 qme0 qre1 s.heap.size) (rW cI h0 qme0 qre1 (z4.2.1, upd z4.2.2.1 (x5 / (4 : Int32)).toNatClampNeg x13, z4.2.2.2.1, z4.2.2.2.2.1, z4.2.2.2.2.2.1, z4.2.2.2.2.2.2.1, z4.2.2.2.2.2.2.2.1, z4.2.2.2.2.2.2.2.2.1, z4.2.2.2.2.2.2.2.2.2.1, z4.2.2.2.2.2.2.2.2.2.2.1, z4.2.2.2.2.2.2.2.2.2.2.2.1, z4.2.2.2.2.2.2.2.2.2.2.2.2.1, z4.2.2.2.2.2.2.2.2.2.2.2.2.2.1, z4.2.2.2.2.2.2.2.2.2.2.2.2.2.2.1, z4.2.2.2.2.2.2.2.2.2.2.2.2.2.2.2.1, z4.2.2.2.2.2.2.2.2.2.2.2.2.2.2.2.2.1, z4.2.2.2.2.2.2.2.2.2.2.2.2.2.2.2.2.2.1, z4.2.2.2.2.2.2.2.2.2.2.2.2.2.2.2.2.2.2)) := hD
          exact rVret (u := (z4.2.1, upd z4.2.2.1 (x5 / (4 : Int32)).toNatClampNeg x13, z4.2.2.2.1, z4.2.2.2.2.1, z4.2.2.2.2.2.1, z4.2.2.2.2.2.2.1, z4.2.2.2.2.2.2.2.1, z4.2.2.2.2.2.2.2.2.1, z4.2.2.2.2.2.2.2.2.2.1, z4.2.2.2.2.2.2.2.2.2.2.1, z4.2.2.2.2.2.2.2.2.2.2.2.1, z4.2.2.2.2.2.2.2.2.2.2.2.2.1, z4.2.2.2.2.2.2.2.2.2.2.2.2.2.1, z4.2.2.2.2.2.2.2.2.2.2.2.2.2.2.1, z4.2.2.2.2.2.2.2.2.2.2.2.2.2.2.2.1, z4.2.2.2.2.2.2.2.2.2.2.2.2.2.2.2.2.1, z4.2.2.2.2.2.2.2.2.2.2.2.2.2.2.2.2.2.1, z4.2.2.2.2.2.2.2.2.2.2.2.2.2.2.2.2.2.2)) hx hb hr hlocks (by subst ex13 ey12 ey11 ey10 ey9 ex8 ex7 ex5 ez4; exact (((if_pos c1).trans ((if_neg c2).trans ((if_neg c3).trans ((if_pos c6).trans rfl))))).symm) hK hP hD hS dX1_store_120
        · exact rVret (u := z4.2) hx hb hr hlocks (by subst ex5 ez4; exact (((if_pos c1).trans ((if_neg c2).trans ((if_neg c3).trans ((if_neg c6).trans rfl))))).symm) hK hP hD hS dX1_store_49
      · refine lv_iconst (v := 2) hx hb dX1_store_25 (by decide) ?_
        refine lv_goto (tgt := 30) hx hb dX1_store_26 (by decide) ?_
        refine lv_istore (lv' := [(5, .int 2), (0, .ref h0), (1, .int p1), (2, .int p2), (3, .int p3), (4, .int p4)]) hx hb dX1_store_30 hl (by decide) rfl (fun ls hl => ?_)
        refine lv_aload_n hx hb dX1_store_32 rfl (lv_at hl 1 rfl) ?_
        refine lv_iload_n hx hb dX1_store_33 rfl (lv_at hl 4 rfl) ?_
        refine lv_iload hx hb dX1_store_34 (lv_at hl 0 rfl) ?_
        refine lv_iconst (v := 2) hx hb dX1_store_36 (by decide) ?_
        refine rMi (As := [.int p3, .int 2, .int 2]) (rest := []) (f := r_reach st p3 (2 : Int32) (2 : Int32)) ⟨hx, hb, hml, hown, hts⟩ (cr_reach l dC dI cI h0 qme0 qre1 tN tB H.size st p3 (2 : Int32) (2 : Int32) (by decide)) (cwV 3 hts (gV mL_1_102 mI_1_reach mX_1_reach mN_1 mB_1_reach) rfl rfl rfl (by decide +kernel) ⟨Nat.le_of_ble_eq_true rfl, Nat.le_of_ble_eq_true rfl⟩) hK hP hD hS hZ rfl hl.1 rfl (Nat.le_of_ble_eq_true rfl) dX1_store_37 ⟨Nat.zero_le _, Nat.zero_le _⟩ (fun z14 ez14 H locs hP hD hS => ?_)
        have hP : va_P (dC, dI) vwCl (rW cI h0 qme0 qre1 z14.2) H := hP
        have hD : va_D (rA h0 qme0 qre1 s.heap.size) (rW cI h0 qme0 qre1 z14.2) := hD
        refine lv_topi (fun x15 ex15 => ?_)
        refine lv_istore (lv' := [(6, .int x15), (5, .int 2), (0, .ref h0), (1, .int p1), (2, .int p2), (3, .int p3), (4, .int p4)]) hx hb dX1_store_40 hl (by decide) rfl (fun ls hl => ?_)
        refine lv_aload_n hx hb dX1_store_42 rfl (lv_at hl 2 rfl) ?_
        refine va_get (D := (dC, dI)) (ci := 1) (v := .int z14.2.2.2.2.2.2.2.2.2.2.2.2.2.2.2.2.1) (C := "PagedHartModel") (T := TX1) (N := 18) hx hb hts mU1 hown hK hP 0 rfl rfl 15 (by decide) (hts _ mF_1_90) (fun _ h9 => h9) rfl dX1_store_43 ?_
        refine lv_if_eq (tgt := 50) hx hb dX1_store_46 (by decide) (fun c16 => ?_) (fun c16 => ?_)
        · refine lv_bipush (v := 8) hx hb dX1_store_50 (by decide) ?_
          refine lv_iload hx hb dX1_store_52 (lv_at hl 0 rfl) ?_
          refine lv_iconst (v := 0) hx hb dX1_store_54 (by decide) ?_
          refine lv_iconst (v := 1) hx hb dX1_store_55 (by decide) ?_
          refine W.callR (W.runS (As := [.int x15, .int 0, .int 1]) (rest := [.int 8]) ⟨hx, hb, hml, hown, hts⟩ (cr_bits l x15 (0 : Int32) (1 : Int32)) (cwS 3 hts (gS mL_1_46 mS_1_bits mN_1 mB_1_bits) rfl rfl rfl (by decide +kernel) ⟨Nat.le_of_ble_eq_true rfl, Nat.le_of_ble_eq_true rfl⟩) ⟨jblind, fun _ _ _ => ⟨rfl, trivial⟩⟩ rfl rfl hl.1 rfl (lv_room (Nat.le_of_ble_eq_true rfl)) dX1_store_56 ⟨Nat.zero_le _, Nat.zero_le _⟩) ?_
          refine W.eq (g2 := F0 m 59 ls (.int (r_bits x15 (0 : Int32) (1 : Int32)) :: [.int 8])) rfl ?_
          refine lv_topi (fun x17 ex17 => ?_)
          refine lv_imul hx hb dX1_store_59 ?_
          refine lv_topi (fun x18 ex18 => ?_)
          refine lv_istore (lv' := [(7, .int x18), (6, .int x15), (5, .int 2), (0, .ref h0), (1, .int p1), (2, .int p2), (3, .int p3), (4, .int p4)]) hx hb dX1_store_60 hl (by decide) rfl (fun ls hl => ?_)
          refine lv_lconst (v := 1) hx hb dX1_store_62 (by decide) ?_
          refine lv_bipush (v := 8) hx hb dX1_store_63 (by decide) ?_
          refine lv_iload hx hb dX1_store_65 (lv_at hl 2 rfl) ?_
          refine lv_imul hx hb dX1_store_67 ?_
          refine lv_lshl (v := (1 : Int64) <<< (((8 : Int32) * (2 : Int32)).toInt64 &&& 63)) hx hb dX1_store_68 rfl ?_
          refine lv_lconst (v := 1) hx hb dX1_store_69 (by decide) ?_
          refine lv_lsub hx hb dX1_store_70 ?_
          refine lv_topl (fun y19 ey19 => ?_)
          refine lv_iload hx hb dX1_store_71 (lv_at hl 0 rfl) ?_
          refine lv_lshl (v := y19 <<< (x18.toInt64 &&& 63)) hx hb dX1_store_73 rfl ?_
          refine lv_topl (fun y20 ey20 => ?_)
          refine lv_lstore (lv' := [(8, .long y20), (7, .int x18), (6, .int x15), (5, .int 2), (0, .ref h0), (1, .int p1), (2, .int p2), (3, .int p3), (4, .int p4)]) hx hb dX1_store_74 hl (by decide) rfl (fun ls hl => ?_)
          refine lv_aload_n hx hb dX1_store_76 rfl (lv_at hl 4 rfl) ?_
          refine va_get (D := (dC, dI)) (ci := 1) (v := .ref qme0) (C := "PagedHartModel") (T := TX1) (N := 18) hx hb hts mU1 hown hK hP 0 rfl rfl 1 (by decide) (hts _ mF_1_8) (fun _ h9 => h9) rfl dX1_store_77 ?_
          refine lv_iload hx hb dX1_store_80 (lv_at hl 2 rfl) ?_
          refine lv_iconst (v := 4) hx hb dX1_store_82 (by decide) ?_
          refine lv_idiv hx hb dX1_store_83 (by decide) ?_
          refine va_iald (D := (dC, dI)) hx hb hK hP 1 0 rfl rfl (by have h9 := c16; rw [ex15]; rw [ez14] at h9 ⊢; exact r_in3 _ _ _ _ h9) dX1_store_84 ?_
          refine jcallRl (W.runS (As := [.int (z14.2.2.1 (x15 / (4 : Int32)).toNatClampNeg)]) (rest := []) ⟨hx, hb, hml, hown, hts⟩ (cr_plain l (z14.2.2.1 (x15 / (4 : Int32)).toNatClampNeg)) (cwS 1 hts (gS mL_1_36 mS_1_plain mN_1 mB_1_plain) rfl rfl rfl (by decide +kernel) ⟨Nat.le_of_ble_eq_true rfl, Nat.le_of_ble_eq_true rfl⟩) ⟨jblind, fun _ _ _ => ⟨rfl, trivial⟩⟩ rfl rfl hl.1 rfl (lv_room (Nat.le_of_ble_eq_true rfl)) dX1_store_85 ⟨Nat.zero_le _, Nat.zero_le _⟩) ?_
          refine lv_topl (fun y21 ey21 => ?_)
          refine lv_lstore (lv' := [(10, .long y21), (8, .long y20), (7, .int x18), (6, .int x15), (5, .int 2), (0, .ref h0), (1, .int p1), (2, .int p2), (3, .int p3), (4, .int p4)]) hx hb dX1_store_88 hl (by decide) rfl (fun ls hl => ?_)
          refine lv_aload_n hx hb dX1_store_90 rfl (lv_at hl 5 rfl) ?_
          refine va_get (D := (dC, dI)) (ci := 1) (v := .ref qme0) (C := "PagedHartModel") (T := TX1) (N := 18) hx hb hts mU1 hown hK hP 0 rfl rfl 1 (by decide) (hts _ mF_1_8) (fun _ h9 => h9) rfl dX1_store_91 ?_
          refine lv_iload hx hb dX1_store_94 (lv_at hl 3 rfl) ?_
          refine lv_iconst (v := 4) hx hb dX1_store_96 (by decide) ?_
          refine lv_idiv hx hb dX1_store_97 (by decide) ?_
          refine lv_lload hx hb dX1_store_98 (lv_at hl 0 rfl) ?_
          refine lv_lload hx hb dX1_store_100 (lv_at hl 0 rfl) ?_
          refine lv_lload hx hb dX1_store_102 (lv_at hl 1 rfl) ?_
          refine lv_land hx hb dX1_store_104 ?_
          refine lv_lsub hx hb dX1_store_105 ?_
          refine lv_iload hx hb dX1_store_106 (lv_at hl 9 rfl) ?_
          refine jcallRl (W.runS (As := [.int p4]) (rest := [.long (y21 - (y21 &&& y20)), .int (x15 / (4 : Int32)), .ref qme0]) ⟨hx, hb, hml, hown, hts⟩ (cr_plain l p4) (cwS 1 hts (gS mL_1_36 mS_1_plain mN_1 mB_1_plain) rfl rfl rfl (by decide +kernel) ⟨Nat.le_of_ble_eq_true rfl, Nat.le_of_ble_eq_true rfl⟩) ⟨jblind, fun _ _ _ => ⟨rfl, trivial⟩⟩ rfl rfl hl.1 rfl (lv_room (Nat.le_of_ble_eq_true rfl)) dX1_store_108 ⟨Nat.zero_le _, Nat.zero_le _⟩) ?_
          refine lv_topl (fun y22 ey22 => ?_)
          refine lv_iload hx hb dX1_store_111 (lv_at hl 2 rfl) ?_
          refine lv_lshl (v := y22 <<< (x18.toInt64 &&& 63)) hx hb dX1_store_113 rfl ?_
          refine lv_lload hx hb dX1_store_114 (lv_at hl 1 rfl) ?_
          refine lv_land hx hb dX1_store_116 ?_
          refine lv_ladd hx hb dX1_store_117 ?_
          refine lv_l2i (v := ((y21 - (y21 &&& y20)) + ((y22 <<< (x18.toInt64 &&& 63)) &&& y20)).toInt32) hx hb dX1_store_118 rfl ?_
          refine lv_topi (fun x23 ex23 => ?_)
          refine va_iast (D := (dC, dI)) hx hb hK hP hD hS 1 0 rfl rfl (by have h9 := c16; rw [ex15]; rw [ez14] at h9 ⊢; exact r_in3 _ _ _ _ h9) dX1_store_119 (fun H locs hP hD hS => ?_)
          have hP : va_P (dC, dI) vwCl (rW cI h0 qme0 qre1 (z14.2.1, upd z14.2.2.1 (x15 / (4 : Int32)).toNatClampNeg x23, z14.2.2.2.1, z14.2.2.2.2.1, z14.2.2.2.2.2.1, z14.2.2.2.2.2.2.1, z14.2.2.2.2.2.2.2.1, z14.2.2.2.2.2.2.2.2.1, z14.2.2.2.2.2.2.2.2.2.1, z14.2.2.2.2.2.2.2.2.2.2.1, z14.2.2.2.2.2.2.2.2.2.2.2.1, z14.2.2.2.2.2.2.2.2.2.2.2.2.1, z14.2.2.2.2.2.2.2.2.2.2.2.2.2.1, z14.2.2.2.2.2.2.2.2.2.2.2.2.2.2.1, z14.2.2.2.2.2.2.2.2.2.2.2.2.2.2.2.1, z14.2.2.2.2.2.2.2.2.2.2.2.2.2.2.2.2.1, z14.2.2.2.2.2.2.2.2.2.2.2.2.2.2.2.2.2.1, z14.2.2.2.2.2.2.2.2.2.2.2.2.2.2.2.2.2.2)) H := hP
          have hD : va_D (rA h0 qme0 qre1 s.heap.size) (rW cI h0 qme0 qre1 (z14.2.1, upd z14.2.2.1 (x15 / (4 : Int32)).toNatClampNeg x23, z14.2.2.2.1, z14.2.2.2.2.1, z14.2.2.2.2.2.1, z14.2.2.2.2.2.2.1, z14.2.2.2.2.2.2.2.1, z14.2.2.2.2.2.2.2.2.1, z14.2.2.2.2.2.2.2.2.2.1, z14.2.2.2.2.2.2.2.2.2.2.1, z14.2.2.2.2.2.2.2.2.2.2.2.1, z14.2.2.2.2.2.2.2.2.2.2.2.2.1, z14.2.2.2.2.2.2.2.2.2.2.2.2.2.1, z14.2.2.2.2.2.2.2.2.2.2.2.2.2.2.1, z14.2.2.2.2.2.2.2.2.2.2.2.2.2.2.2.1, z14.2.2.2.2.2.2.2.2.2.2.2.2.2.2.2.2.1, z14.2.2.2.2.2.2.2.2.2.2.2.2.2.2.2.2.2.1, z14.2.2.2.2.2.2.2.2.2.2.2.2.2.2.2.2.2.2)) := hD
          exact rVret (u := (z14.2.1, upd z14.2.2.1 (x15 / (4 : Int32)).toNatClampNeg x23, z14.2.2.2.1, z14.2.2.2.2.1, z14.2.2.2.2.2.1, z14.2.2.2.2.2.2.1, z14.2.2.2.2.2.2.2.1, z14.2.2.2.2.2.2.2.2.1, z14.2.2.2.2.2.2.2.2.2.1, z14.2.2.2.2.2.2.2.2.2.2.1, z14.2.2.2.2.2.2.2.2.2.2.2.1, z14.2.2.2.2.2.2.2.2.2.2.2.2.1, z14.2.2.2.2.2.2.2.2.2.2.2.2.2.1, z14.2.2.2.2.2.2.2.2.2.2.2.2.2.2.1, z14.2.2.2.2.2.2.2.2.2.2.2.2.2.2.2.1, z14.2.2.2.2.2.2.2.2.2.2.2.2.2.2.2.2.1, z14.2.2.2.2.2.2.2.2.2.2.2.2.2.2.2.2.2.1, z14.2.2.2.2.2.2.2.2.2.2.2.2.2.2.2.2.2.2)) hx hb hr hlocks (by subst ex23 ey22 ey21 ey20 ey19 ex18 ex17 ex15 ez14; exact (((if_pos c1).trans ((if_neg c2).trans ((if_pos c3).trans ((if_pos c16).trans rfl))))).symm) hK hP hD hS dX1_store_120
        · exact rVret (u := z14.2) hx hb hr hlocks (by subst ex15 ez14; exact (((if_pos c1).trans ((if_neg c2).trans ((if_pos c3).trans ((if_neg c16).trans rfl))))).symm) hK hP hD hS dX1_store_49
    · refine lv_iconst (v := 1) hx hb dX1_store_16 (by decide) ?_
      refine lv_goto (tgt := 30) hx hb dX1_store_17 (by decide) ?_
      refine lv_istore (lv' := [(5, .int 1), (0, .ref h0), (1, .int p1), (2, .int p2), (3, .int p3), (4, .int p4)]) hx hb dX1_store_30 hl (by decide) rfl (fun ls hl => ?_)
      refine lv_aload_n hx hb dX1_store_32 rfl (lv_at hl 1 rfl) ?_
      refine lv_iload_n hx hb dX1_store_33 rfl (lv_at hl 4 rfl) ?_
      refine lv_iload hx hb dX1_store_34 (lv_at hl 0 rfl) ?_
      refine lv_iconst (v := 2) hx hb dX1_store_36 (by decide) ?_
      refine rMi (As := [.int p3, .int 1, .int 2]) (rest := []) (f := r_reach st p3 (1 : Int32) (2 : Int32)) ⟨hx, hb, hml, hown, hts⟩ (cr_reach l dC dI cI h0 qme0 qre1 tN tB H.size st p3 (1 : Int32) (2 : Int32) (by decide)) (cwV 3 hts (gV mL_1_102 mI_1_reach mX_1_reach mN_1 mB_1_reach) rfl rfl rfl (by decide +kernel) ⟨Nat.le_of_ble_eq_true rfl, Nat.le_of_ble_eq_true rfl⟩) hK hP hD hS hZ rfl hl.1 rfl (Nat.le_of_ble_eq_true rfl) dX1_store_37 ⟨Nat.zero_le _, Nat.zero_le _⟩ (fun z24 ez24 H locs hP hD hS => ?_)
      have hP : va_P (dC, dI) vwCl (rW cI h0 qme0 qre1 z24.2) H := hP
      have hD : va_D (rA h0 qme0 qre1 s.heap.size) (rW cI h0 qme0 qre1 z24.2) := hD
      refine lv_topi (fun x25 ex25 => ?_)
      refine lv_istore (lv' := [(6, .int x25), (5, .int 1), (0, .ref h0), (1, .int p1), (2, .int p2), (3, .int p3), (4, .int p4)]) hx hb dX1_store_40 hl (by decide) rfl (fun ls hl => ?_)
      refine lv_aload_n hx hb dX1_store_42 rfl (lv_at hl 2 rfl) ?_
      refine va_get (D := (dC, dI)) (ci := 1) (v := .int z24.2.2.2.2.2.2.2.2.2.2.2.2.2.2.2.2.1) (C := "PagedHartModel") (T := TX1) (N := 18) hx hb hts mU1 hown hK hP 0 rfl rfl 15 (by decide) (hts _ mF_1_90) (fun _ h9 => h9) rfl dX1_store_43 ?_
      refine lv_if_eq (tgt := 50) hx hb dX1_store_46 (by decide) (fun c26 => ?_) (fun c26 => ?_)
      · refine lv_bipush (v := 8) hx hb dX1_store_50 (by decide) ?_
        refine lv_iload hx hb dX1_store_52 (lv_at hl 0 rfl) ?_
        refine lv_iconst (v := 0) hx hb dX1_store_54 (by decide) ?_
        refine lv_iconst (v := 1) hx hb dX1_store_55 (by decide) ?_
        refine W.callR (W.runS (As := [.int x25, .int 0, .int 1]) (rest := [.int 8]) ⟨hx, hb, hml, hown, hts⟩ (cr_bits l x25 (0 : Int32) (1 : Int32)) (cwS 3 hts (gS mL_1_46 mS_1_bits mN_1 mB_1_bits) rfl rfl rfl (by decide +kernel) ⟨Nat.le_of_ble_eq_true rfl, Nat.le_of_ble_eq_true rfl⟩) ⟨jblind, fun _ _ _ => ⟨rfl, trivial⟩⟩ rfl rfl hl.1 rfl (lv_room (Nat.le_of_ble_eq_true rfl)) dX1_store_56 ⟨Nat.zero_le _, Nat.zero_le _⟩) ?_
        refine W.eq (g2 := F0 m 59 ls (.int (r_bits x25 (0 : Int32) (1 : Int32)) :: [.int 8])) rfl ?_
        refine lv_topi (fun x27 ex27 => ?_)
        refine lv_imul hx hb dX1_store_59 ?_
        refine lv_topi (fun x28 ex28 => ?_)
        refine lv_istore (lv' := [(7, .int x28), (6, .int x25), (5, .int 1), (0, .ref h0), (1, .int p1), (2, .int p2), (3, .int p3), (4, .int p4)]) hx hb dX1_store_60 hl (by decide) rfl (fun ls hl => ?_)
        refine lv_lconst (v := 1) hx hb dX1_store_62 (by decide) ?_
        refine lv_bipush (v := 8) hx hb dX1_store_63 (by decide) ?_
        refine lv_iload hx hb dX1_store_65 (lv_at hl 2 rfl) ?_
        refine lv_imul hx hb dX1_store_67 ?_
        refine lv_lshl (v := (1 : Int64) <<< (((8 : Int32) * (1 : Int32)).toInt64 &&& 63)) hx hb dX1_store_68 rfl ?_
        refine lv_lconst (v := 1) hx hb dX1_store_69 (by decide) ?_
        refine lv_lsub hx hb dX1_store_70 ?_
        refine lv_topl (fun y29 ey29 => ?_)
        refine lv_iload hx hb dX1_store_71 (lv_at hl 0 rfl) ?_
        refine lv_lshl (v := y29 <<< (x28.toInt64 &&& 63)) hx hb dX1_store_73 rfl ?_
        refine lv_topl (fun y30 ey30 => ?_)
        refine lv_lstore (lv' := [(8, .long y30), (7, .int x28), (6, .int x25), (5, .int 1), (0, .ref h0), (1, .int p1), (2, .int p2), (3, .int p3), (4, .int p4)]) hx hb dX1_store_74 hl (by decide) rfl (fun ls hl => ?_)
        refine lv_aload_n hx hb dX1_store_76 rfl (lv_at hl 4 rfl) ?_
        refine va_get (D := (dC, dI)) (ci := 1) (v := .ref qme0) (C := "PagedHartModel") (T := TX1) (N := 18) hx hb hts mU1 hown hK hP 0 rfl rfl 1 (by decide) (hts _ mF_1_8) (fun _ h9 => h9) rfl dX1_store_77 ?_
        refine lv_iload hx hb dX1_store_80 (lv_at hl 2 rfl) ?_
        refine lv_iconst (v := 4) hx hb dX1_store_82 (by decide) ?_
        refine lv_idiv hx hb dX1_store_83 (by decide) ?_
        refine va_iald (D := (dC, dI)) hx hb hK hP 1 0 rfl rfl (by have h9 := c26; rw [ex25]; rw [ez24] at h9 ⊢; exact r_in3 _ _ _ _ h9) dX1_store_84 ?_
        refine jcallRl (W.runS (As := [.int (z24.2.2.1 (x25 / (4 : Int32)).toNatClampNeg)]) (rest := []) ⟨hx, hb, hml, hown, hts⟩ (cr_plain l (z24.2.2.1 (x25 / (4 : Int32)).toNatClampNeg)) (cwS 1 hts (gS mL_1_36 mS_1_plain mN_1 mB_1_plain) rfl rfl rfl (by decide +kernel) ⟨Nat.le_of_ble_eq_true rfl, Nat.le_of_ble_eq_true rfl⟩) ⟨jblind, fun _ _ _ => ⟨rfl, trivial⟩⟩ rfl rfl hl.1 rfl (lv_room (Nat.le_of_ble_eq_true rfl)) dX1_store_85 ⟨Nat.zero_le _, Nat.zero_le _⟩) ?_
        refine lv_topl (fun y31 ey31 => ?_)
        refine lv_lstore (lv' := [(10, .long y31), (8, .long y30), (7, .int x28), (6, .int x25), (5, .int 1), (0, .ref h0), (1, .int p1), (2, .int p2), (3, .int p3), (4, .int p4)]) hx hb dX1_store_88 hl (by decide) rfl (fun ls hl => ?_)
        refine lv_aload_n hx hb dX1_store_90 rfl (lv_at hl 5 rfl) ?_
        refine va_get (D := (dC, dI)) (ci := 1) (v := .ref qme0) (C := "PagedHartModel") (T := TX1) (N := 18) hx hb hts mU1 hown hK hP 0 rfl rfl 1 (by decide) (hts _ mF_1_8) (fun _ h9 => h9) rfl dX1_store_91 ?_
        refine lv_iload hx hb dX1_store_94 (lv_at hl 3 rfl) ?_
        refine lv_iconst (v := 4) hx hb dX1_store_96 (by decide) ?_
        refine lv_idiv hx hb dX1_store_97 (by decide) ?_
        refine lv_lload hx hb dX1_store_98 (lv_at hl 0 rfl) ?_
        refine lv_lload hx hb dX1_store_100 (lv_at hl 0 rfl) ?_
        refine lv_lload hx hb dX1_store_102 (lv_at hl 1 rfl) ?_
        refine lv_land hx hb dX1_store_104 ?_
        refine lv_lsub hx hb dX1_store_105 ?_
        refine lv_iload hx hb dX1_store_106 (lv_at hl 9 rfl) ?_
        refine jcallRl (W.runS (As := [.int p4]) (rest := [.long (y31 - (y31 &&& y30)), .int (x25 / (4 : Int32)), .ref qme0]) ⟨hx, hb, hml, hown, hts⟩ (cr_plain l p4) (cwS 1 hts (gS mL_1_36 mS_1_plain mN_1 mB_1_plain) rfl rfl rfl (by decide +kernel) ⟨Nat.le_of_ble_eq_true rfl, Nat.le_of_ble_eq_true rfl⟩) ⟨jblind, fun _ _ _ => ⟨rfl, trivial⟩⟩ rfl rfl hl.1 rfl (lv_room (Nat.le_of_ble_eq_true rfl)) dX1_store_108 ⟨Nat.zero_le _, Nat.zero_le _⟩) ?_
        refine lv_topl (fun y32 ey32 => ?_)
        refine lv_iload hx hb dX1_store_111 (lv_at hl 2 rfl) ?_
        refine lv_lshl (v := y32 <<< (x28.toInt64 &&& 63)) hx hb dX1_store_113 rfl ?_
        refine lv_lload hx hb dX1_store_114 (lv_at hl 1 rfl) ?_
        refine lv_land hx hb dX1_store_116 ?_
        refine lv_ladd hx hb dX1_store_117 ?_
        refine lv_l2i (v := ((y31 - (y31 &&& y30)) + ((y32 <<< (x28.toInt64 &&& 63)) &&& y30)).toInt32) hx hb dX1_store_118 rfl ?_
        refine lv_topi (fun x33 ex33 => ?_)
        refine va_iast (D := (dC, dI)) hx hb hK hP hD hS 1 0 rfl rfl (by have h9 := c26; rw [ex25]; rw [ez24] at h9 ⊢; exact r_in3 _ _ _ _ h9) dX1_store_119 (fun H locs hP hD hS => ?_)
        have hP : va_P (dC, dI) vwCl (rW cI h0 qme0 qre1 (z24.2.1, upd z24.2.2.1 (x25 / (4 : Int32)).toNatClampNeg x33, z24.2.2.2.1, z24.2.2.2.2.1, z24.2.2.2.2.2.1, z24.2.2.2.2.2.2.1, z24.2.2.2.2.2.2.2.1, z24.2.2.2.2.2.2.2.2.1, z24.2.2.2.2.2.2.2.2.2.1, z24.2.2.2.2.2.2.2.2.2.2.1, z24.2.2.2.2.2.2.2.2.2.2.2.1, z24.2.2.2.2.2.2.2.2.2.2.2.2.1, z24.2.2.2.2.2.2.2.2.2.2.2.2.2.1, z24.2.2.2.2.2.2.2.2.2.2.2.2.2.2.1, z24.2.2.2.2.2.2.2.2.2.2.2.2.2.2.2.1, z24.2.2.2.2.2.2.2.2.2.2.2.2.2.2.2.2.1, z24.2.2.2.2.2.2.2.2.2.2.2.2.2.2.2.2.2.1, z24.2.2.2.2.2.2.2.2.2.2.2.2.2.2.2.2.2.2)) H := hP
        have hD : va_D (rA h0 qme0 qre1 s.heap.size) (rW cI h0 qme0 qre1 (z24.2.1, upd z24.2.2.1 (x25 / (4 : Int32)).toNatClampNeg x33, z24.2.2.2.1, z24.2.2.2.2.1, z24.2.2.2.2.2.1, z24.2.2.2.2.2.2.1, z24.2.2.2.2.2.2.2.1, z24.2.2.2.2.2.2.2.2.1, z24.2.2.2.2.2.2.2.2.2.1, z24.2.2.2.2.2.2.2.2.2.2.1, z24.2.2.2.2.2.2.2.2.2.2.2.1, z24.2.2.2.2.2.2.2.2.2.2.2.2.1, z24.2.2.2.2.2.2.2.2.2.2.2.2.2.1, z24.2.2.2.2.2.2.2.2.2.2.2.2.2.2.1, z24.2.2.2.2.2.2.2.2.2.2.2.2.2.2.2.1, z24.2.2.2.2.2.2.2.2.2.2.2.2.2.2.2.2.1, z24.2.2.2.2.2.2.2.2.2.2.2.2.2.2.2.2.2.1, z24.2.2.2.2.2.2.2.2.2.2.2.2.2.2.2.2.2.2)) := hD
        exact rVret (u := (z24.2.1, upd z24.2.2.1 (x25 / (4 : Int32)).toNatClampNeg x33, z24.2.2.2.1, z24.2.2.2.2.1, z24.2.2.2.2.2.1, z24.2.2.2.2.2.2.1, z24.2.2.2.2.2.2.2.1, z24.2.2.2.2.2.2.2.2.1, z24.2.2.2.2.2.2.2.2.2.1, z24.2.2.2.2.2.2.2.2.2.2.1, z24.2.2.2.2.2.2.2.2.2.2.2.1, z24.2.2.2.2.2.2.2.2.2.2.2.2.1, z24.2.2.2.2.2.2.2.2.2.2.2.2.2.1, z24.2.2.2.2.2.2.2.2.2.2.2.2.2.2.1, z24.2.2.2.2.2.2.2.2.2.2.2.2.2.2.2.1, z24.2.2.2.2.2.2.2.2.2.2.2.2.2.2.2.2.1, z24.2.2.2.2.2.2.2.2.2.2.2.2.2.2.2.2.2.1, z24.2.2.2.2.2.2.2.2.2.2.2.2.2.2.2.2.2.2)) hx hb hr hlocks (by subst ex33 ey32 ey31 ey30 ey29 ex28 ex27 ex25 ez24; exact (((if_pos c1).trans ((if_pos c2).trans ((if_pos c26).trans rfl)))).symm) hK hP hD hS dX1_store_120
      · exact rVret (u := z24.2) hx hb hr hlocks (by subst ex25 ez24; exact (((if_pos c1).trans ((if_pos c2).trans ((if_neg c26).trans rfl)))).symm) hK hP hD hS dX1_store_49
  · refine lv_aload_n hx hb dX1_store_5 rfl (lv_at hl 0 rfl) ?_
    refine lv_iconst (v := 2) hx hb dX1_store_6 (by decide) ?_
    refine lv_iload_n hx hb dX1_store_7 rfl (lv_at hl 1 rfl) ?_
    refine rMv (As := [.int 2, .int p1]) (rest := []) (f := r_trap st (2 : Int32) p1) ⟨hx, hb, hml, hown, hts⟩ (cr_trap l dC dI cI h0 qme0 qre1 tN tB H.size st (2 : Int32) p1) (cwV 2 hts (gV mL_1_93 mI_1_trap mX_1_trap mN_1 mB_1_trap) rfl rfl rfl (by decide +kernel) ⟨Nat.le_of_ble_eq_true rfl, Nat.le_of_ble_eq_true rfl⟩) hK hP hD hS hZ rfl hl.1 rfl (Nat.le_of_ble_eq_true rfl) dX1_store_8 ⟨Nat.zero_le _, Nat.zero_le _⟩ (fun z34 ez34 H locs hP hD hS => ?_)
    have hP : va_P (dC, dI) vwCl (rW cI h0 qme0 qre1 z34) H := hP
    have hD : va_D (rA h0 qme0 qre1 s.heap.size) (rW cI h0 qme0 qre1 z34) := hD
    exact rVret (u := z34) hx hb hr hlocks (by subst ez34; exact (((if_neg c1).trans rfl)).symm) hK hP hD hS dX1_store_11

def r_withNumber (st : RS) (p1 : Int32) (p2 : Int32) (p3 : Int32) (p4 : Int32) (p5 : Int32) : RS :=
  let x1 : Int32 := r_bits p1 (20 : Int32) (24 : Int32)
  let x2 : Int32 := r_bits p1 (25 : Int32) (31 : Int32)
  if p2 = (1 : Int32) then
    if x2 = 0 then
      let x55 : Int32 := r_power x1
      let z56 : RS := r_set st p3 (p4 * x55)
      z56
    else
      if p2 = (5 : Int32) then
        if x2 = 0 then
          if x2 = (32 : Int32) then
            let x41 : Int32 := r_right p4 x1 (1 : Int32)
            let z42 : RS := r_set st p3 x41
            z42
          else
            let x39 : Int32 := r_right p4 x1 (0 : Int32)
            let z40 : RS := r_set st p3 x39
            z40
        else
          if x2 = (32 : Int32) then
            if x2 = (32 : Int32) then
              let x53 : Int32 := r_right p4 x1 (1 : Int32)
              let z54 : RS := r_set st p3 x53
              z54
            else
              let x51 : Int32 := r_right p4 x1 (0 : Int32)
              let z52 : RS := r_set st p3 x51
              z52
          else
            if p2 = (1 : Int32) then
              let z45 : RS := r_trap st (2 : Int32) p1
              z45
            else
              if p2 = (5 : Int32) then
                let z49 : RS := r_trap st (2 : Int32) p1
                z49
              else
                let x47 : Int32 := r_simple p2 p4 p5
                let z48 : RS := r_set st p3 x47
                z48
      else
        if p2 = (1 : Int32) then
          let z32 : RS := r_trap st (2 : Int32) p1
          z32
        else
          if p2 = (5 : Int32) then
            let z36 : RS := r_trap st (2 : Int32) p1
            z36
          else
            let x34 : Int32 := r_simple p2 p4 p5
            let z35 : RS := r_set st p3 x34
            z35
  else
    if p2 = (5 : Int32) then
      if x2 = 0 then
        if x2 = (32 : Int32) then
          let x15 : Int32 := r_right p4 x1 (1 : Int32)
          let z16 : RS := r_set st p3 x15
          z16
        else
          let x13 : Int32 := r_right p4 x1 (0 : Int32)
          let z14 : RS := r_set st p3 x13
          z14
      else
        if x2 = (32 : Int32) then
          if x2 = (32 : Int32) then
            let x27 : Int32 := r_right p4 x1 (1 : Int32)
            let z28 : RS := r_set st p3 x27
            z28
          else
            let x25 : Int32 := r_right p4 x1 (0 : Int32)
            let z26 : RS := r_set st p3 x25
            z26
        else
          if p2 = (1 : Int32) then
            let z19 : RS := r_trap st (2 : Int32) p1
            z19
          else
            if p2 = (5 : Int32) then
              let z23 : RS := r_trap st (2 : Int32) p1
              z23
            else
              let x21 : Int32 := r_simple p2 p4 p5
              let z22 : RS := r_set st p3 x21
              z22
    else
      if p2 = (1 : Int32) then
        let z6 : RS := r_trap st (2 : Int32) p1
        z6
      else
        if p2 = (5 : Int32) then
          let z10 : RS := r_trap st (2 : Int32) p1
          z10
        else
          let x8 : Int32 := r_simple p2 p4 p5
          let z9 : RS := r_set st p3 x8
          z9
set_option maxHeartbeats 4000000 in
set_option maxRecDepth 100000 in
theorem cr_withNumber (l : Launch) (dC : Nat → ClassId) (dI : Nat → Nat → Nat) (cI h0 qme0 qre1 tN tB : Nat) (sz : Nat) (st : RS) (p1 : Int32) (p2 : Int32) (p3 : Int32) (p4 : Int32) (p5 : Int32) (hp3 : vp_in p3 32)  : Met l yX1_withNumber (.code yX1_withNumber cX1_withNumber 8 none :: gBIG) ({ frames := 3, cells := 0, slots := 0, locals := 64 }) (va_Pc [.ref h0, .int p1, .int p2, .int p3, .int p4, .int p5] (rPre dC dI cI h0 qme0 qre1 tN tB sz st)) (va_Qv (fun v => v = r_withNumber st p1 p2 p3 p4 p5) (rB dC dI cI h0 qme0 qre1 (rA h0 qme0 qre1 sz)) (rA h0 qme0 qre1 sz)) 0 0 (rA h0 qme0 qre1 sz) := by
  refine Met.ofW (cc := cX1_withNumber) (maxL := 8) (ret := none) (by decide) rfl ?_
  intro p e s m args below meth c s₁ B hml hv
  obtain ⟨rfl, hsz, hP, hK, hD0, hZ⟩ := hv
  have hx := B.exec
  have hb := B.bytes
  have hr := B.returns
  have hts : ∀ w ∈ gBIG, w.before _ s = true := fun w h => atoms_spec (ws := (.code yX1_withNumber cX1_withNumber 8 none :: gBIG)) B.pre w (List.mem_cons_of_mem _ h)
  have hown : s.vm.findClass "PagedHartModel" = some m.cls := findClass_of_methodNamed B.named
  have hlocks := B.notSynchronized
  subst hsz
  have hD : va_D (rA h0 qme0 qre1 s.heap.size) (rW cI h0 qme0 qre1 st) := rD hD0
  have hS : va_S (rA h0 qme0 qre1 s.heap.size) s.heap s.heap [] := va_S.rf
  have hP : va_P (dC, dI) vwCl (rW cI h0 qme0 qre1 st) s.heap := hP
  have hl := lv_entry ([.ref h0, .int p1, .int p2, .int p3, .int p4, .int p5]) (n := 8) (Nat.le_of_ble_eq_true rfl)
  rw [lg_entry_eq]
  generalize (lg_sl ([.ref h0, .int p1, .int p2, .int p3, .int p4, .int p5]) ++ List.replicate (8 - (lg_sl ([.ref h0, .int p1, .int p2, .int p3, .int p4, .int p5])).length) Slot.unset).toArray = ls at hl ⊢
  refine jgo (P := fun H locs => va_P (dC, dI) vwCl (rW cI h0 qme0 qre1 st) H ∧ va_S (rA h0 qme0 qre1 s.heap.size) s.heap H locs) ⟨hP, hS⟩ (fun H locs hPS => ?_)
  obtain ⟨hP, hS⟩ := hPS
  have hl : lv_has ls 8 [(0, .ref h0), (1, .int p1), (2, .int p2), (3, .int p3), (4, .int p4), (5, .int p5)] := hl
  refine lv_iload_n hx hb dX1_withNumber_0 rfl (lv_at hl 1 rfl) ?_
  refine lv_bipush (v := 20) hx hb dX1_withNumber_1 (by decide) ?_
  refine lv_bipush (v := 24) hx hb dX1_withNumber_3 (by decide) ?_
  refine W.callR (W.runS (As := [.int p1, .int 20, .int 24]) (rest := []) ⟨hx, hb, hml, hown, hts⟩ (cr_bits l p1 (20 : Int32) (24 : Int32)) (cwS 3 hts (gS mL_1_46 mS_1_bits mN_1 mB_1_bits) rfl rfl rfl (by decide +kernel) ⟨Nat.le_of_ble_eq_true rfl, Nat.le_of_ble_eq_true rfl⟩) ⟨jblind, fun _ _ _ => ⟨rfl, trivial⟩⟩ rfl rfl hl.1 rfl (lv_room (Nat.le_of_ble_eq_true rfl)) dX1_withNumber_5 ⟨Nat.zero_le _, Nat.zero_le _⟩) ?_
  refine W.eq (g2 := F0 m 8 ls (.int (r_bits p1 (20 : Int32) (24 : Int32)) :: [])) rfl ?_
  refine lv_topi (fun x1 ex1 => ?_)
  refine lv_istore (lv' := [(6, .int x1), (0, .ref h0), (1, .int p1), (2, .int p2), (3, .int p3), (4, .int p4), (5, .int p5)]) hx hb dX1_withNumber_8 hl (by decide) rfl (fun ls hl => ?_)
  refine lv_iload_n hx hb dX1_withNumber_10 rfl (lv_at hl 2 rfl) ?_
  refine lv_bipush (v := 25) hx hb dX1_withNumber_11 (by decide) ?_
  refine lv_bipush (v := 31) hx hb dX1_withNumber_13 (by decide) ?_
  refine W.callR (W.runS (As := [.int p1, .int 25, .int 31]) (rest := []) ⟨hx, hb, hml, hown, hts⟩ (cr_bits l p1 (25 : Int32) (31 : Int32)) (cwS 3 hts (gS mL_1_46 mS_1_bits mN_1 mB_1_bits) rfl rfl rfl (by decide +kernel) ⟨Nat.le_of_ble_eq_true rfl, Nat.le_of_ble_eq_true rfl⟩) ⟨jblind, fun _ _ _ => ⟨rfl, trivial⟩⟩ rfl rfl hl.1 rfl (lv_room (Nat.le_of_ble_eq_true rfl)) dX1_withNumber_15 ⟨Nat.zero_le _, Nat.zero_le _⟩) ?_
  refine W.eq (g2 := F0 m 18 ls (.int (r_bits p1 (25 : Int32) (31 : Int32)) :: [])) rfl ?_
  refine lv_topi (fun x2 ex2 => ?_)
  refine lv_istore (lv' := [(7, .int x2), (6, .int x1), (0, .ref h0), (1, .int p1), (2, .int p2), (3, .int p3), (4, .int p4), (5, .int p5)]) hx hb dX1_withNumber_18 hl (by decide) rfl (fun ls hl => ?_)
  refine lv_iload_n hx hb dX1_withNumber_20 rfl (lv_at hl 4 rfl) ?_
  refine lv_iconst (v := 1) hx hb dX1_withNumber_21 (by decide) ?_
  refine lv_icmp_ne (tgt := 46) hx hb dX1_withNumber_22 (by decide) (fun c3 => ?_) (fun c3 => ?_)
  · refine lv_iload_n hx hb dX1_withNumber_46 rfl (lv_at hl 4 rfl) ?_
    refine lv_iconst (v := 5) hx hb dX1_withNumber_47 (by decide) ?_
    refine lv_icmp_ne (tgt := 90) hx hb dX1_withNumber_48 (by decide) (fun c4 => ?_) (fun c4 => ?_)
    · refine lv_iload_n hx hb dX1_withNumber_90 rfl (lv_at hl 4 rfl) ?_
      refine lv_iconst (v := 1) hx hb dX1_withNumber_91 (by decide) ?_
      refine lv_icmp_eq (tgt := 100) hx hb dX1_withNumber_92 (by decide) (fun c5 => ?_) (fun c5 => ?_)
      · refine lv_aload_n hx hb dX1_withNumber_100 rfl (lv_at hl 2 rfl) ?_
        refine lv_iconst (v := 2) hx hb dX1_withNumber_101 (by decide) ?_
        refine lv_iload_n hx hb dX1_withNumber_102 rfl (lv_at hl 3 rfl) ?_
        refine rMv (As := [.int 2, .int p1]) (rest := []) (f := r_trap st (2 : Int32) p1) ⟨hx, hb, hml, hown, hts⟩ (cr_trap l dC dI cI h0 qme0 qre1 tN tB H.size st (2 : Int32) p1) (cwV 2 hts (gV mL_1_93 mI_1_trap mX_1_trap mN_1 mB_1_trap) rfl rfl rfl (by decide +kernel) ⟨Nat.le_of_ble_eq_true rfl, Nat.le_of_ble_eq_true rfl⟩) hK hP hD hS hZ rfl hl.1 rfl (Nat.le_of_ble_eq_true rfl) dX1_withNumber_103 ⟨Nat.zero_le _, Nat.zero_le _⟩ (fun z6 ez6 H locs hP hD hS => ?_)
        have hP : va_P (dC, dI) vwCl (rW cI h0 qme0 qre1 z6) H := hP
        have hD : va_D (rA h0 qme0 qre1 s.heap.size) (rW cI h0 qme0 qre1 z6) := hD
        refine lv_goto (tgt := 122) hx hb dX1_withNumber_106 (by decide) ?_
        exact rVret (u := z6) hx hb hr hlocks (by subst ez6 ex2 ex1; exact (((if_neg c3).trans ((if_neg c4).trans ((if_pos c5).trans rfl)))).symm) hK hP hD hS dX1_withNumber_122
      · refine lv_iload_n hx hb dX1_withNumber_95 rfl (lv_at hl 4 rfl) ?_
        refine lv_iconst (v := 5) hx hb dX1_withNumber_96 (by decide) ?_
        refine lv_icmp_ne (tgt := 109) hx hb dX1_withNumber_97 (by decide) (fun c7 => ?_) (fun c7 => ?_)
        · refine lv_aload_n hx hb dX1_withNumber_109 rfl (lv_at hl 2 rfl) ?_
          refine lv_iload_n hx hb dX1_withNumber_110 rfl (lv_at hl 5 rfl) ?_
          refine lv_iload_n hx hb dX1_withNumber_111 rfl (lv_at hl 4 rfl) ?_
          refine lv_iload hx hb dX1_withNumber_112 (lv_at hl 6 rfl) ?_
          refine lv_iload hx hb dX1_withNumber_114 (lv_at hl 7 rfl) ?_
          refine W.callR (W.runS (As := [.int p2, .int p4, .int p5]) (rest := [.int p3, .ref h0]) ⟨hx, hb, hml, hown, hts⟩ (cr_simple l p2 p4 p5) (cwS 3 hts (gS mL_1_152 mS_1_simple mN_1 mB_1_simple) rfl rfl rfl (by decide +kernel) ⟨Nat.le_of_ble_eq_true rfl, Nat.le_of_ble_eq_true rfl⟩) ⟨jblind, fun _ _ _ => ⟨rfl, trivial⟩⟩ rfl rfl hl.1 rfl (lv_room (Nat.le_of_ble_eq_true rfl)) dX1_withNumber_116 ⟨Nat.zero_le _, Nat.zero_le _⟩) ?_
          refine W.eq (g2 := F0 m 119 ls (.int (r_simple p2 p4 p5) :: [.int p3, .ref h0])) rfl ?_
          refine lv_topi (fun x8 ex8 => ?_)
          refine rMv (As := [.int p3, .int x8]) (rest := []) (f := r_set st p3 x8) ⟨hx, hb, hml, hown, hts⟩ (cr_set l dC dI cI h0 qme0 qre1 tN tB H.size st p3 x8 hp3) (cwV 2 hts (gV mL_1_112 mI_1_set mX_1_set mN_1 mB_1_set) rfl rfl rfl (by decide +kernel) ⟨Nat.le_of_ble_eq_true rfl, Nat.le_of_ble_eq_true rfl⟩) hK hP hD hS hZ rfl hl.1 rfl (Nat.le_of_ble_eq_true rfl) dX1_withNumber_119 ⟨Nat.zero_le _, Nat.zero_le _⟩ (fun z9 ez9 H locs hP hD hS => ?_)
          have hP : va_P (dC, dI) vwCl (rW cI h0 qme0 qre1 z9) H := hP
          have hD : va_D (rA h0 qme0 qre1 s.heap.size) (rW cI h0 qme0 qre1 z9) := hD
          exact rVret (u := z9) hx hb hr hlocks (by subst ez9 ex8 ex2 ex1; exact (((if_neg c3).trans ((if_neg c4).trans ((if_neg c5).trans ((if_neg c7).trans rfl))))).symm) hK hP hD hS dX1_withNumber_122
        · refine lv_aload_n hx hb dX1_withNumber_100 rfl (lv_at hl 2 rfl) ?_
          refine lv_iconst (v := 2) hx hb dX1_withNumber_101 (by decide) ?_
          refine lv_iload_n hx hb dX1_withNumber_102 rfl (lv_at hl 3 rfl) ?_
          refine rMv (As := [.int 2, .int p1]) (rest := []) (f := r_trap st (2 : Int32) p1) ⟨hx, hb, hml, hown, hts⟩ (cr_trap l dC dI cI h0 qme0 qre1 tN tB H.size st (2 : Int32) p1) (cwV 2 hts (gV mL_1_93 mI_1_trap mX_1_trap mN_1 mB_1_trap) rfl rfl rfl (by decide +kernel) ⟨Nat.le_of_ble_eq_true rfl, Nat.le_of_ble_eq_true rfl⟩) hK hP hD hS hZ rfl hl.1 rfl (Nat.le_of_ble_eq_true rfl) dX1_withNumber_103 ⟨Nat.zero_le _, Nat.zero_le _⟩ (fun z10 ez10 H locs hP hD hS => ?_)
          have hP : va_P (dC, dI) vwCl (rW cI h0 qme0 qre1 z10) H := hP
          have hD : va_D (rA h0 qme0 qre1 s.heap.size) (rW cI h0 qme0 qre1 z10) := hD
          refine lv_goto (tgt := 122) hx hb dX1_withNumber_106 (by decide) ?_
          exact rVret (u := z10) hx hb hr hlocks (by subst ez10 ex2 ex1; exact (((if_neg c3).trans ((if_neg c4).trans ((if_neg c5).trans ((if_pos c7).trans rfl))))).symm) hK hP hD hS dX1_withNumber_122
    · refine lv_iload hx hb dX1_withNumber_51 (lv_at hl 0 rfl) ?_
      refine lv_if_eq (tgt := 63) hx hb dX1_withNumber_53 (by decide) (fun c11 => ?_) (fun c11 => ?_)
      · refine lv_aload_n hx hb dX1_withNumber_63 rfl (lv_at hl 2 rfl) ?_
        refine lv_iload_n hx hb dX1_withNumber_64 rfl (lv_at hl 5 rfl) ?_
        refine lv_iload hx hb dX1_withNumber_65 (lv_at hl 6 rfl) ?_
        refine lv_iload hx hb dX1_withNumber_67 (lv_at hl 1 rfl) ?_
        refine lv_iload hx hb dX1_withNumber_69 (lv_at hl 0 rfl) ?_
        refine lv_bipush (v := 32) hx hb dX1_withNumber_71 (by decide) ?_
        refine lv_icmp_ne (tgt := 80) hx hb dX1_withNumber_73 (by decide) (fun c12 => ?_) (fun c12 => ?_)
        · refine lv_iconst (v := 0) hx hb dX1_withNumber_80 (by decide) ?_
          refine W.callR (W.runS (As := [.int p4, .int x1, .int 0]) (rest := [.int p3, .ref h0]) ⟨hx, hb, hml, hown, hts⟩ (cr_right l p4 x1 (0 : Int32)) (cwS 3 hts (gS mL_1_148 mS_1_right mN_1 mB_1_right) rfl rfl rfl (by decide +kernel) ⟨Nat.le_of_ble_eq_true rfl, Nat.le_of_ble_eq_true rfl⟩) ⟨jblind, fun _ _ _ => ⟨rfl, trivial⟩⟩ rfl rfl hl.1 rfl (lv_room (Nat.le_of_ble_eq_true rfl)) dX1_withNumber_81 ⟨Nat.zero_le _, Nat.zero_le _⟩) ?_
          refine W.eq (g2 := F0 m 84 ls (.int (r_right p4 x1 (0 : Int32)) :: [.int p3, .ref h0])) rfl ?_
          refine lv_topi (fun x13 ex13 => ?_)
          refine rMv (As := [.int p3, .int x13]) (rest := []) (f := r_set st p3 x13) ⟨hx, hb, hml, hown, hts⟩ (cr_set l dC dI cI h0 qme0 qre1 tN tB H.size st p3 x13 hp3) (cwV 2 hts (gV mL_1_112 mI_1_set mX_1_set mN_1 mB_1_set) rfl rfl rfl (by decide +kernel) ⟨Nat.le_of_ble_eq_true rfl, Nat.le_of_ble_eq_true rfl⟩) hK hP hD hS hZ rfl hl.1 rfl (Nat.le_of_ble_eq_true rfl) dX1_withNumber_84 ⟨Nat.zero_le _, Nat.zero_le _⟩ (fun z14 ez14 H locs hP hD hS => ?_)
          have hP : va_P (dC, dI) vwCl (rW cI h0 qme0 qre1 z14) H := hP
          have hD : va_D (rA h0 qme0 qre1 s.heap.size) (rW cI h0 qme0 qre1 z14) := hD
          refine lv_goto (tgt := 122) hx hb dX1_withNumber_87 (by decide) ?_
          exact rVret (u := z14) hx hb hr hlocks (by subst ez14 ex13 ex2 ex1; exact (((if_neg c3).trans ((if_pos c4).trans ((if_pos c11).trans ((if_neg c12).trans rfl))))).symm) hK hP hD hS dX1_withNumber_122
        · refine lv_iconst (v := 1) hx hb dX1_withNumber_76 (by decide) ?_
          refine lv_goto (tgt := 81) hx hb dX1_withNumber_77 (by decide) ?_
          refine W.callR (W.runS (As := [.int p4, .int x1, .int 1]) (rest := [.int p3, .ref h0]) ⟨hx, hb, hml, hown, hts⟩ (cr_right l p4 x1 (1 : Int32)) (cwS 3 hts (gS mL_1_148 mS_1_right mN_1 mB_1_right) rfl rfl rfl (by decide +kernel) ⟨Nat.le_of_ble_eq_true rfl, Nat.le_of_ble_eq_true rfl⟩) ⟨jblind, fun _ _ _ => ⟨rfl, trivial⟩⟩ rfl rfl hl.1 rfl (lv_room (Nat.le_of_ble_eq_true rfl)) dX1_withNumber_81 ⟨Nat.zero_le _, Nat.zero_le _⟩) ?_
          refine W.eq (g2 := F0 m 84 ls (.int (r_right p4 x1 (1 : Int32)) :: [.int p3, .ref h0])) rfl ?_
          refine lv_topi (fun x15 ex15 => ?_)
          refine rMv (As := [.int p3, .int x15]) (rest := []) (f := r_set st p3 x15) ⟨hx, hb, hml, hown, hts⟩ (cr_set l dC dI cI h0 qme0 qre1 tN tB H.size st p3 x15 hp3) (cwV 2 hts (gV mL_1_112 mI_1_set mX_1_set mN_1 mB_1_set) rfl rfl rfl (by decide +kernel) ⟨Nat.le_of_ble_eq_true rfl, Nat.le_of_ble_eq_true rfl⟩) hK hP hD hS hZ rfl hl.1 rfl (Nat.le_of_ble_eq_true rfl) dX1_withNumber_84 ⟨Nat.zero_le _, Nat.zero_le _⟩ (fun z16 ez16 H locs hP hD hS => ?_)
          have hP : va_P (dC, dI) vwCl (rW cI h0 qme0 qre1 z16) H := hP
          have hD : va_D (rA h0 qme0 qre1 s.heap.size) (rW cI h0 qme0 qre1 z16) := hD
          refine lv_goto (tgt := 122) hx hb dX1_withNumber_87 (by decide) ?_
          exact rVret (u := z16) hx hb hr hlocks (by subst ez16 ex15 ex2 ex1; exact (((if_neg c3).trans ((if_pos c4).trans ((if_pos c11).trans ((if_pos c12).trans rfl))))).symm) hK hP hD hS dX1_withNumber_122
      · refine lv_iload hx hb dX1_withNumber_56 (lv_at hl 0 rfl) ?_
        refine lv_bipush (v := 32) hx hb dX1_withNumber_58 (by decide) ?_
        refine lv_icmp_ne (tgt := 90) hx hb dX1_withNumber_60 (by decide) (fun c17 => ?_) (fun c17 => ?_)
        · refine lv_iload_n hx hb dX1_withNumber_90 rfl (lv_at hl 4 rfl) ?_
          refine lv_iconst (v := 1) hx hb dX1_withNumber_91 (by decide) ?_
          refine lv_icmp_eq (tgt := 100) hx hb dX1_withNumber_92 (by decide) (fun c18 => ?_) (fun c18 => ?_)
          · refine lv_aload_n hx hb dX1_withNumber_100 rfl (lv_at hl 2 rfl) ?_
            refine lv_iconst (v := 2) hx hb dX1_withNumber_101 (by decide) ?_
            refine lv_iload_n hx hb dX1_withNumber_102 rfl (lv_at hl 3 rfl) ?_
            refine rMv (As := [.int 2, .int p1]) (rest := []) (f := r_trap st (2 : Int32) p1) ⟨hx, hb, hml, hown, hts⟩ (cr_trap l dC dI cI h0 qme0 qre1 tN tB H.size st (2 : Int32) p1) (cwV 2 hts (gV mL_1_93 mI_1_trap mX_1_trap mN_1 mB_1_trap) rfl rfl rfl (by decide +kernel) ⟨Nat.le_of_ble_eq_true rfl, Nat.le_of_ble_eq_true rfl⟩) hK hP hD hS hZ rfl hl.1 rfl (Nat.le_of_ble_eq_true rfl) dX1_withNumber_103 ⟨Nat.zero_le _, Nat.zero_le _⟩ (fun z19 ez19 H locs hP hD hS => ?_)
            have hP : va_P (dC, dI) vwCl (rW cI h0 qme0 qre1 z19) H := hP
            have hD : va_D (rA h0 qme0 qre1 s.heap.size) (rW cI h0 qme0 qre1 z19) := hD
            refine lv_goto (tgt := 122) hx hb dX1_withNumber_106 (by decide) ?_
            exact rVret (u := z19) hx hb hr hlocks (by subst ez19 ex2 ex1; exact (((if_neg c3).trans ((if_pos c4).trans ((if_neg c11).trans ((if_neg c17).trans ((if_pos c18).trans rfl)))))).symm) hK hP hD hS dX1_withNumber_122
          · refine lv_iload_n hx hb dX1_withNumber_95 rfl (lv_at hl 4 rfl) ?_
            refine lv_iconst (v := 5) hx hb dX1_withNumber_96 (by decide) ?_
            refine lv_icmp_ne (tgt := 109) hx hb dX1_withNumber_97 (by decide) (fun c20 => ?_) (fun c20 => ?_)
            · refine lv_aload_n hx hb dX1_withNumber_109 rfl (lv_at hl 2 rfl) ?_
              refine lv_iload_n hx hb dX1_withNumber_110 rfl (lv_at hl 5 rfl) ?_
              refine lv_iload_n hx hb dX1_withNumber_111 rfl (lv_at hl 4 rfl) ?_
              refine lv_iload hx hb dX1_withNumber_112 (lv_at hl 6 rfl) ?_
              refine lv_iload hx hb dX1_withNumber_114 (lv_at hl 7 rfl) ?_
              refine W.callR (W.runS (As := [.int p2, .int p4, .int p5]) (rest := [.int p3, .ref h0]) ⟨hx, hb, hml, hown, hts⟩ (cr_simple l p2 p4 p5) (cwS 3 hts (gS mL_1_152 mS_1_simple mN_1 mB_1_simple) rfl rfl rfl (by decide +kernel) ⟨Nat.le_of_ble_eq_true rfl, Nat.le_of_ble_eq_true rfl⟩) ⟨jblind, fun _ _ _ => ⟨rfl, trivial⟩⟩ rfl rfl hl.1 rfl (lv_room (Nat.le_of_ble_eq_true rfl)) dX1_withNumber_116 ⟨Nat.zero_le _, Nat.zero_le _⟩) ?_
              refine W.eq (g2 := F0 m 119 ls (.int (r_simple p2 p4 p5) :: [.int p3, .ref h0])) rfl ?_
              refine lv_topi (fun x21 ex21 => ?_)
              refine rMv (As := [.int p3, .int x21]) (rest := []) (f := r_set st p3 x21) ⟨hx, hb, hml, hown, hts⟩ (cr_set l dC dI cI h0 qme0 qre1 tN tB H.size st p3 x21 hp3) (cwV 2 hts (gV mL_1_112 mI_1_set mX_1_set mN_1 mB_1_set) rfl rfl rfl (by decide +kernel) ⟨Nat.le_of_ble_eq_true rfl, Nat.le_of_ble_eq_true rfl⟩) hK hP hD hS hZ rfl hl.1 rfl (Nat.le_of_ble_eq_true rfl) dX1_withNumber_119 ⟨Nat.zero_le _, Nat.zero_le _⟩ (fun z22 ez22 H locs hP hD hS => ?_)
              have hP : va_P (dC, dI) vwCl (rW cI h0 qme0 qre1 z22) H := hP
              have hD : va_D (rA h0 qme0 qre1 s.heap.size) (rW cI h0 qme0 qre1 z22) := hD
              exact rVret (u := z22) hx hb hr hlocks (by subst ez22 ex21 ex2 ex1; exact (((if_neg c3).trans ((if_pos c4).trans ((if_neg c11).trans ((if_neg c17).trans ((if_neg c18).trans ((if_neg c20).trans rfl))))))).symm) hK hP hD hS dX1_withNumber_122
            · refine lv_aload_n hx hb dX1_withNumber_100 rfl (lv_at hl 2 rfl) ?_
              refine lv_iconst (v := 2) hx hb dX1_withNumber_101 (by decide) ?_
              refine lv_iload_n hx hb dX1_withNumber_102 rfl (lv_at hl 3 rfl) ?_
              refine rMv (As := [.int 2, .int p1]) (rest := []) (f := r_trap st (2 : Int32) p1) ⟨hx, hb, hml, hown, hts⟩ (cr_trap l dC dI cI h0 qme0 qre1 tN tB H.size st (2 : Int32) p1) (cwV 2 hts (gV mL_1_93 mI_1_trap mX_1_trap mN_1 mB_1_trap) rfl rfl rfl (by decide +kernel) ⟨Nat.le_of_ble_eq_true rfl, Nat.le_of_ble_eq_true rfl⟩) hK hP hD hS hZ rfl hl.1 rfl (Nat.le_of_ble_eq_true rfl) dX1_withNumber_103 ⟨Nat.zero_le _, Nat.zero_le _⟩ (fun z23 ez23 H locs hP hD hS => ?_)
              have hP : va_P (dC, dI) vwCl (rW cI h0 qme0 qre1 z23) H := hP
              have hD : va_D (rA h0 qme0 qre1 s.heap.size) (rW cI h0 qme0 qre1 z23) := hD
              refine lv_goto (tgt := 122) hx hb dX1_withNumber_106 (by decide) ?_
              exact rVret (u := z23) hx hb hr hlocks (by subst ez23 ex2 ex1; exact (((if_neg c3).trans ((if_pos c4).trans ((if_neg c11).trans ((if_neg c17).trans ((if_neg c18).trans ((if_pos c20).trans rfl))))))).symm) hK hP hD hS dX1_withNumber_122
        · refine lv_aload_n hx hb dX1_withNumber_63 rfl (lv_at hl 2 rfl) ?_
          refine lv_iload_n hx hb dX1_withNumber_64 rfl (lv_at hl 5 rfl) ?_
          refine lv_iload hx hb dX1_withNumber_65 (lv_at hl 6 rfl) ?_
          refine lv_iload hx hb dX1_withNumber_67 (lv_at hl 1 rfl) ?_
          refine lv_iload hx hb dX1_withNumber_69 (lv_at hl 0 rfl) ?_
          refine lv_bipush (v := 32) hx hb dX1_withNumber_71 (by decide) ?_
          refine lv_icmp_ne (tgt := 80) hx hb dX1_withNumber_73 (by decide) (fun c24 => ?_) (fun c24 => ?_)
          · refine lv_iconst (v := 0) hx hb dX1_withNumber_80 (by decide) ?_
            refine W.callR (W.runS (As := [.int p4, .int x1, .int 0]) (rest := [.int p3, .ref h0]) ⟨hx, hb, hml, hown, hts⟩ (cr_right l p4 x1 (0 : Int32)) (cwS 3 hts (gS mL_1_148 mS_1_right mN_1 mB_1_right) rfl rfl rfl (by decide +kernel) ⟨Nat.le_of_ble_eq_true rfl, Nat.le_of_ble_eq_true rfl⟩) ⟨jblind, fun _ _ _ => ⟨rfl, trivial⟩⟩ rfl rfl hl.1 rfl (lv_room (Nat.le_of_ble_eq_true rfl)) dX1_withNumber_81 ⟨Nat.zero_le _, Nat.zero_le _⟩) ?_
            refine W.eq (g2 := F0 m 84 ls (.int (r_right p4 x1 (0 : Int32)) :: [.int p3, .ref h0])) rfl ?_
            refine lv_topi (fun x25 ex25 => ?_)
            refine rMv (As := [.int p3, .int x25]) (rest := []) (f := r_set st p3 x25) ⟨hx, hb, hml, hown, hts⟩ (cr_set l dC dI cI h0 qme0 qre1 tN tB H.size st p3 x25 hp3) (cwV 2 hts (gV mL_1_112 mI_1_set mX_1_set mN_1 mB_1_set) rfl rfl rfl (by decide +kernel) ⟨Nat.le_of_ble_eq_true rfl, Nat.le_of_ble_eq_true rfl⟩) hK hP hD hS hZ rfl hl.1 rfl (Nat.le_of_ble_eq_true rfl) dX1_withNumber_84 ⟨Nat.zero_le _, Nat.zero_le _⟩ (fun z26 ez26 H locs hP hD hS => ?_)
            have hP : va_P (dC, dI) vwCl (rW cI h0 qme0 qre1 z26) H := hP
            have hD : va_D (rA h0 qme0 qre1 s.heap.size) (rW cI h0 qme0 qre1 z26) := hD
            refine lv_goto (tgt := 122) hx hb dX1_withNumber_87 (by decide) ?_
            exact rVret (u := z26) hx hb hr hlocks (by subst ez26 ex25 ex2 ex1; exact (((if_neg c3).trans ((if_pos c4).trans ((if_neg c11).trans ((if_pos c17).trans ((if_neg c24).trans rfl)))))).symm) hK hP hD hS dX1_withNumber_122
          · refine lv_iconst (v := 1) hx hb dX1_withNumber_76 (by decide) ?_
            refine lv_goto (tgt := 81) hx hb dX1_withNumber_77 (by decide) ?_
            refine W.callR (W.runS (As := [.int p4, .int x1, .int 1]) (rest := [.int p3, .ref h0]) ⟨hx, hb, hml, hown, hts⟩ (cr_right l p4 x1 (1 : Int32)) (cwS 3 hts (gS mL_1_148 mS_1_right mN_1 mB_1_right) rfl rfl rfl (by decide +kernel) ⟨Nat.le_of_ble_eq_true rfl, Nat.le_of_ble_eq_true rfl⟩) ⟨jblind, fun _ _ _ => ⟨rfl, trivial⟩⟩ rfl rfl hl.1 rfl (lv_room (Nat.le_of_ble_eq_true rfl)) dX1_withNumber_81 ⟨Nat.zero_le _, Nat.zero_le _⟩) ?_
            refine W.eq (g2 := F0 m 84 ls (.int (r_right p4 x1 (1 : Int32)) :: [.int p3, .ref h0])) rfl ?_
            refine lv_topi (fun x27 ex27 => ?_)
            refine rMv (As := [.int p3, .int x27]) (rest := []) (f := r_set st p3 x27) ⟨hx, hb, hml, hown, hts⟩ (cr_set l dC dI cI h0 qme0 qre1 tN tB H.size st p3 x27 hp3) (cwV 2 hts (gV mL_1_112 mI_1_set mX_1_set mN_1 mB_1_set) rfl rfl rfl (by decide +kernel) ⟨Nat.le_of_ble_eq_true rfl, Nat.le_of_ble_eq_true rfl⟩) hK hP hD hS hZ rfl hl.1 rfl (Nat.le_of_ble_eq_true rfl) dX1_withNumber_84 ⟨Nat.zero_le _, Nat.zero_le _⟩ (fun z28 ez28 H locs hP hD hS => ?_)
            have hP : va_P (dC, dI) vwCl (rW cI h0 qme0 qre1 z28) H := hP
            have hD : va_D (rA h0 qme0 qre1 s.heap.size) (rW cI h0 qme0 qre1 z28) := hD
            refine lv_goto (tgt := 122) hx hb dX1_withNumber_87 (by decide) ?_
            exact rVret (u := z28) hx hb hr hlocks (by subst ez28 ex27 ex2 ex1; exact (((if_neg c3).trans ((if_pos c4).trans ((if_neg c11).trans ((if_pos c17).trans ((if_pos c24).trans rfl)))))).symm) hK hP hD hS dX1_withNumber_122
  · refine lv_iload hx hb dX1_withNumber_25 (lv_at hl 0 rfl) ?_
    refine lv_if_ne (tgt := 46) hx hb dX1_withNumber_27 (by decide) (fun c29 => ?_) (fun c29 => ?_)
    · refine lv_iload_n hx hb dX1_withNumber_46 rfl (lv_at hl 4 rfl) ?_
      refine lv_iconst (v := 5) hx hb dX1_withNumber_47 (by decide) ?_
      refine lv_icmp_ne (tgt := 90) hx hb dX1_withNumber_48 (by decide) (fun c30 => ?_) (fun c30 => ?_)
      · refine lv_iload_n hx hb dX1_withNumber_90 rfl (lv_at hl 4 rfl) ?_
        refine lv_iconst (v := 1) hx hb dX1_withNumber_91 (by decide) ?_
        refine lv_icmp_eq (tgt := 100) hx hb dX1_withNumber_92 (by decide) (fun c31 => ?_) (fun c31 => ?_)
        · refine lv_aload_n hx hb dX1_withNumber_100 rfl (lv_at hl 2 rfl) ?_
          refine lv_iconst (v := 2) hx hb dX1_withNumber_101 (by decide) ?_
          refine lv_iload_n hx hb dX1_withNumber_102 rfl (lv_at hl 3 rfl) ?_
          refine rMv (As := [.int 2, .int p1]) (rest := []) (f := r_trap st (2 : Int32) p1) ⟨hx, hb, hml, hown, hts⟩ (cr_trap l dC dI cI h0 qme0 qre1 tN tB H.size st (2 : Int32) p1) (cwV 2 hts (gV mL_1_93 mI_1_trap mX_1_trap mN_1 mB_1_trap) rfl rfl rfl (by decide +kernel) ⟨Nat.le_of_ble_eq_true rfl, Nat.le_of_ble_eq_true rfl⟩) hK hP hD hS hZ rfl hl.1 rfl (Nat.le_of_ble_eq_true rfl) dX1_withNumber_103 ⟨Nat.zero_le _, Nat.zero_le _⟩ (fun z32 ez32 H locs hP hD hS => ?_)
          have hP : va_P (dC, dI) vwCl (rW cI h0 qme0 qre1 z32) H := hP
          have hD : va_D (rA h0 qme0 qre1 s.heap.size) (rW cI h0 qme0 qre1 z32) := hD
          refine lv_goto (tgt := 122) hx hb dX1_withNumber_106 (by decide) ?_
          exact rVret (u := z32) hx hb hr hlocks (by subst ez32 ex2 ex1; exact (((if_pos c3).trans ((if_neg c29).trans ((if_neg c30).trans ((if_pos c31).trans rfl))))).symm) hK hP hD hS dX1_withNumber_122
        · refine lv_iload_n hx hb dX1_withNumber_95 rfl (lv_at hl 4 rfl) ?_
          refine lv_iconst (v := 5) hx hb dX1_withNumber_96 (by decide) ?_
          refine lv_icmp_ne (tgt := 109) hx hb dX1_withNumber_97 (by decide) (fun c33 => ?_) (fun c33 => ?_)
          · refine lv_aload_n hx hb dX1_withNumber_109 rfl (lv_at hl 2 rfl) ?_
            refine lv_iload_n hx hb dX1_withNumber_110 rfl (lv_at hl 5 rfl) ?_
            refine lv_iload_n hx hb dX1_withNumber_111 rfl (lv_at hl 4 rfl) ?_
            refine lv_iload hx hb dX1_withNumber_112 (lv_at hl 6 rfl) ?_
            refine lv_iload hx hb dX1_withNumber_114 (lv_at hl 7 rfl) ?_
            refine W.callR (W.runS (As := [.int p2, .int p4, .int p5]) (rest := [.int p3, .ref h0]) ⟨hx, hb, hml, hown, hts⟩ (cr_simple l p2 p4 p5) (cwS 3 hts (gS mL_1_152 mS_1_simple mN_1 mB_1_simple) rfl rfl rfl (by decide +kernel) ⟨Nat.le_of_ble_eq_true rfl, Nat.le_of_ble_eq_true rfl⟩) ⟨jblind, fun _ _ _ => ⟨rfl, trivial⟩⟩ rfl rfl hl.1 rfl (lv_room (Nat.le_of_ble_eq_true rfl)) dX1_withNumber_116 ⟨Nat.zero_le _, Nat.zero_le _⟩) ?_
            refine W.eq (g2 := F0 m 119 ls (.int (r_simple p2 p4 p5) :: [.int p3, .ref h0])) rfl ?_
            refine lv_topi (fun x34 ex34 => ?_)
            refine rMv (As := [.int p3, .int x34]) (rest := []) (f := r_set st p3 x34) ⟨hx, hb, hml, hown, hts⟩ (cr_set l dC dI cI h0 qme0 qre1 tN tB H.size st p3 x34 hp3) (cwV 2 hts (gV mL_1_112 mI_1_set mX_1_set mN_1 mB_1_set) rfl rfl rfl (by decide +kernel) ⟨Nat.le_of_ble_eq_true rfl, Nat.le_of_ble_eq_true rfl⟩) hK hP hD hS hZ rfl hl.1 rfl (Nat.le_of_ble_eq_true rfl) dX1_withNumber_119 ⟨Nat.zero_le _, Nat.zero_le _⟩ (fun z35 ez35 H locs hP hD hS => ?_)
            have hP : va_P (dC, dI) vwCl (rW cI h0 qme0 qre1 z35) H := hP
            have hD : va_D (rA h0 qme0 qre1 s.heap.size) (rW cI h0 qme0 qre1 z35) := hD
            exact rVret (u := z35) hx hb hr hlocks (by subst ez35 ex34 ex2 ex1; exact (((if_pos c3).trans ((if_neg c29).trans ((if_neg c30).trans ((if_neg c31).trans ((if_neg c33).trans rfl)))))).symm) hK hP hD hS dX1_withNumber_122
          · refine lv_aload_n hx hb dX1_withNumber_100 rfl (lv_at hl 2 rfl) ?_
            refine lv_iconst (v := 2) hx hb dX1_withNumber_101 (by decide) ?_
            refine lv_iload_n hx hb dX1_withNumber_102 rfl (lv_at hl 3 rfl) ?_
            refine rMv (As := [.int 2, .int p1]) (rest := []) (f := r_trap st (2 : Int32) p1) ⟨hx, hb, hml, hown, hts⟩ (cr_trap l dC dI cI h0 qme0 qre1 tN tB H.size st (2 : Int32) p1) (cwV 2 hts (gV mL_1_93 mI_1_trap mX_1_trap mN_1 mB_1_trap) rfl rfl rfl (by decide +kernel) ⟨Nat.le_of_ble_eq_true rfl, Nat.le_of_ble_eq_true rfl⟩) hK hP hD hS hZ rfl hl.1 rfl (Nat.le_of_ble_eq_true rfl) dX1_withNumber_103 ⟨Nat.zero_le _, Nat.zero_le _⟩ (fun z36 ez36 H locs hP hD hS => ?_)
            have hP : va_P (dC, dI) vwCl (rW cI h0 qme0 qre1 z36) H := hP
            have hD : va_D (rA h0 qme0 qre1 s.heap.size) (rW cI h0 qme0 qre1 z36) := hD
            refine lv_goto (tgt := 122) hx hb dX1_withNumber_106 (by decide) ?_
            exact rVret (u := z36) hx hb hr hlocks (by subst ez36 ex2 ex1; exact (((if_pos c3).trans ((if_neg c29).trans ((if_neg c30).trans ((if_neg c31).trans ((if_pos c33).trans rfl)))))).symm) hK hP hD hS dX1_withNumber_122
      · refine lv_iload hx hb dX1_withNumber_51 (lv_at hl 0 rfl) ?_
        refine lv_if_eq (tgt := 63) hx hb dX1_withNumber_53 (by decide) (fun c37 => ?_) (fun c37 => ?_)
        · refine lv_aload_n hx hb dX1_withNumber_63 rfl (lv_at hl 2 rfl) ?_
          refine lv_iload_n hx hb dX1_withNumber_64 rfl (lv_at hl 5 rfl) ?_
          refine lv_iload hx hb dX1_withNumber_65 (lv_at hl 6 rfl) ?_
          refine lv_iload hx hb dX1_withNumber_67 (lv_at hl 1 rfl) ?_
          refine lv_iload hx hb dX1_withNumber_69 (lv_at hl 0 rfl) ?_
          refine lv_bipush (v := 32) hx hb dX1_withNumber_71 (by decide) ?_
          refine lv_icmp_ne (tgt := 80) hx hb dX1_withNumber_73 (by decide) (fun c38 => ?_) (fun c38 => ?_)
          · refine lv_iconst (v := 0) hx hb dX1_withNumber_80 (by decide) ?_
            refine W.callR (W.runS (As := [.int p4, .int x1, .int 0]) (rest := [.int p3, .ref h0]) ⟨hx, hb, hml, hown, hts⟩ (cr_right l p4 x1 (0 : Int32)) (cwS 3 hts (gS mL_1_148 mS_1_right mN_1 mB_1_right) rfl rfl rfl (by decide +kernel) ⟨Nat.le_of_ble_eq_true rfl, Nat.le_of_ble_eq_true rfl⟩) ⟨jblind, fun _ _ _ => ⟨rfl, trivial⟩⟩ rfl rfl hl.1 rfl (lv_room (Nat.le_of_ble_eq_true rfl)) dX1_withNumber_81 ⟨Nat.zero_le _, Nat.zero_le _⟩) ?_
            refine W.eq (g2 := F0 m 84 ls (.int (r_right p4 x1 (0 : Int32)) :: [.int p3, .ref h0])) rfl ?_
            refine lv_topi (fun x39 ex39 => ?_)
            refine rMv (As := [.int p3, .int x39]) (rest := []) (f := r_set st p3 x39) ⟨hx, hb, hml, hown, hts⟩ (cr_set l dC dI cI h0 qme0 qre1 tN tB H.size st p3 x39 hp3) (cwV 2 hts (gV mL_1_112 mI_1_set mX_1_set mN_1 mB_1_set) rfl rfl rfl (by decide +kernel) ⟨Nat.le_of_ble_eq_true rfl, Nat.le_of_ble_eq_true rfl⟩) hK hP hD hS hZ rfl hl.1 rfl (Nat.le_of_ble_eq_true rfl) dX1_withNumber_84 ⟨Nat.zero_le _, Nat.zero_le _⟩ (fun z40 ez40 H locs hP hD hS => ?_)
            have hP : va_P (dC, dI) vwCl (rW cI h0 qme0 qre1 z40) H := hP
            have hD : va_D (rA h0 qme0 qre1 s.heap.size) (rW cI h0 qme0 qre1 z40) := hD
            refine lv_goto (tgt := 122) hx hb dX1_withNumber_87 (by decide) ?_
            exact rVret (u := z40) hx hb hr hlocks (by subst ez40 ex39 ex2 ex1; exact (((if_pos c3).trans ((if_neg c29).trans ((if_pos c30).trans ((if_pos c37).trans ((if_neg c38).trans rfl)))))).symm) hK hP hD hS dX1_withNumber_122
          · refine lv_iconst (v := 1) hx hb dX1_withNumber_76 (by decide) ?_
            refine lv_goto (tgt := 81) hx hb dX1_withNumber_77 (by decide) ?_
            refine W.callR (W.runS (As := [.int p4, .int x1, .int 1]) (rest := [.int p3, .ref h0]) ⟨hx, hb, hml, hown, hts⟩ (cr_right l p4 x1 (1 : Int32)) (cwS 3 hts (gS mL_1_148 mS_1_right mN_1 mB_1_right) rfl rfl rfl (by decide +kernel) ⟨Nat.le_of_ble_eq_true rfl, Nat.le_of_ble_eq_true rfl⟩) ⟨jblind, fun _ _ _ => ⟨rfl, trivial⟩⟩ rfl rfl hl.1 rfl (lv_room (Nat.le_of_ble_eq_true rfl)) dX1_withNumber_81 ⟨Nat.zero_le _, Nat.zero_le _⟩) ?_
            refine W.eq (g2 := F0 m 84 ls (.int (r_right p4 x1 (1 : Int32)) :: [.int p3, .ref h0])) rfl ?_
            refine lv_topi (fun x41 ex41 => ?_)
            refine rMv (As := [.int p3, .int x41]) (rest := []) (f := r_set st p3 x41) ⟨hx, hb, hml, hown, hts⟩ (cr_set l dC dI cI h0 qme0 qre1 tN tB H.size st p3 x41 hp3) (cwV 2 hts (gV mL_1_112 mI_1_set mX_1_set mN_1 mB_1_set) rfl rfl rfl (by decide +kernel) ⟨Nat.le_of_ble_eq_true rfl, Nat.le_of_ble_eq_true rfl⟩) hK hP hD hS hZ rfl hl.1 rfl (Nat.le_of_ble_eq_true rfl) dX1_withNumber_84 ⟨Nat.zero_le _, Nat.zero_le _⟩ (fun z42 ez42 H locs hP hD hS => ?_)
            have hP : va_P (dC, dI) vwCl (rW cI h0 qme0 qre1 z42) H := hP
            have hD : va_D (rA h0 qme0 qre1 s.heap.size) (rW cI h0 qme0 qre1 z42) := hD
            refine lv_goto (tgt := 122) hx hb dX1_withNumber_87 (by decide) ?_
            exact rVret (u := z42) hx hb hr hlocks (by subst ez42 ex41 ex2 ex1; exact (((if_pos c3).trans ((if_neg c29).trans ((if_pos c30).trans ((if_pos c37).trans ((if_pos c38).trans rfl)))))).symm) hK hP hD hS dX1_withNumber_122
        · refine lv_iload hx hb dX1_withNumber_56 (lv_at hl 0 rfl) ?_
          refine lv_bipush (v := 32) hx hb dX1_withNumber_58 (by decide) ?_
          refine lv_icmp_ne (tgt := 90) hx hb dX1_withNumber_60 (by decide) (fun c43 => ?_) (fun c43 => ?_)
          · refine lv_iload_n hx hb dX1_withNumber_90 rfl (lv_at hl 4 rfl) ?_
            refine lv_iconst (v := 1) hx hb dX1_withNumber_91 (by decide) ?_
            refine lv_icmp_eq (tgt := 100) hx hb dX1_withNumber_92 (by decide) (fun c44 => ?_) (fun c44 => ?_)
            · refine lv_aload_n hx hb dX1_withNumber_100 rfl (lv_at hl 2 rfl) ?_
              refine lv_iconst (v := 2) hx hb dX1_withNumber_101 (by decide) ?_
              refine lv_iload_n hx hb dX1_withNumber_102 rfl (lv_at hl 3 rfl) ?_
              refine rMv (As := [.int 2, .int p1]) (rest := []) (f := r_trap st (2 : Int32) p1) ⟨hx, hb, hml, hown, hts⟩ (cr_trap l dC dI cI h0 qme0 qre1 tN tB H.size st (2 : Int32) p1) (cwV 2 hts (gV mL_1_93 mI_1_trap mX_1_trap mN_1 mB_1_trap) rfl rfl rfl (by decide +kernel) ⟨Nat.le_of_ble_eq_true rfl, Nat.le_of_ble_eq_true rfl⟩) hK hP hD hS hZ rfl hl.1 rfl (Nat.le_of_ble_eq_true rfl) dX1_withNumber_103 ⟨Nat.zero_le _, Nat.zero_le _⟩ (fun z45 ez45 H locs hP hD hS => ?_)
              have hP : va_P (dC, dI) vwCl (rW cI h0 qme0 qre1 z45) H := hP
              have hD : va_D (rA h0 qme0 qre1 s.heap.size) (rW cI h0 qme0 qre1 z45) := hD
              refine lv_goto (tgt := 122) hx hb dX1_withNumber_106 (by decide) ?_
              exact rVret (u := z45) hx hb hr hlocks (by subst ez45 ex2 ex1; exact (((if_pos c3).trans ((if_neg c29).trans ((if_pos c30).trans ((if_neg c37).trans ((if_neg c43).trans ((if_pos c44).trans rfl))))))).symm) hK hP hD hS dX1_withNumber_122
            · refine lv_iload_n hx hb dX1_withNumber_95 rfl (lv_at hl 4 rfl) ?_
              refine lv_iconst (v := 5) hx hb dX1_withNumber_96 (by decide) ?_
              refine lv_icmp_ne (tgt := 109) hx hb dX1_withNumber_97 (by decide) (fun c46 => ?_) (fun c46 => ?_)
              · refine lv_aload_n hx hb dX1_withNumber_109 rfl (lv_at hl 2 rfl) ?_
                refine lv_iload_n hx hb dX1_withNumber_110 rfl (lv_at hl 5 rfl) ?_
                refine lv_iload_n hx hb dX1_withNumber_111 rfl (lv_at hl 4 rfl) ?_
                refine lv_iload hx hb dX1_withNumber_112 (lv_at hl 6 rfl) ?_
                refine lv_iload hx hb dX1_withNumber_114 (lv_at hl 7 rfl) ?_
                refine W.callR (W.runS (As := [.int p2, .int p4, .int p5]) (rest := [.int p3, .ref h0]) ⟨hx, hb, hml, hown, hts⟩ (cr_simple l p2 p4 p5) (cwS 3 hts (gS mL_1_152 mS_1_simple mN_1 mB_1_simple) rfl rfl rfl (by decide +kernel) ⟨Nat.le_of_ble_eq_true rfl, Nat.le_of_ble_eq_true rfl⟩) ⟨jblind, fun _ _ _ => ⟨rfl, trivial⟩⟩ rfl rfl hl.1 rfl (lv_room (Nat.le_of_ble_eq_true rfl)) dX1_withNumber_116 ⟨Nat.zero_le _, Nat.zero_le _⟩) ?_
                refine W.eq (g2 := F0 m 119 ls (.int (r_simple p2 p4 p5) :: [.int p3, .ref h0])) rfl ?_
                refine lv_topi (fun x47 ex47 => ?_)
                refine rMv (As := [.int p3, .int x47]) (rest := []) (f := r_set st p3 x47) ⟨hx, hb, hml, hown, hts⟩ (cr_set l dC dI cI h0 qme0 qre1 tN tB H.size st p3 x47 hp3) (cwV 2 hts (gV mL_1_112 mI_1_set mX_1_set mN_1 mB_1_set) rfl rfl rfl (by decide +kernel) ⟨Nat.le_of_ble_eq_true rfl, Nat.le_of_ble_eq_true rfl⟩) hK hP hD hS hZ rfl hl.1 rfl (Nat.le_of_ble_eq_true rfl) dX1_withNumber_119 ⟨Nat.zero_le _, Nat.zero_le _⟩ (fun z48 ez48 H locs hP hD hS => ?_)
                have hP : va_P (dC, dI) vwCl (rW cI h0 qme0 qre1 z48) H := hP
                have hD : va_D (rA h0 qme0 qre1 s.heap.size) (rW cI h0 qme0 qre1 z48) := hD
                exact rVret (u := z48) hx hb hr hlocks (by subst ez48 ex47 ex2 ex1; exact (((if_pos c3).trans ((if_neg c29).trans ((if_pos c30).trans ((if_neg c37).trans ((if_neg c43).trans ((if_neg c44).trans ((if_neg c46).trans rfl)))))))).symm) hK hP hD hS dX1_withNumber_122
              · refine lv_aload_n hx hb dX1_withNumber_100 rfl (lv_at hl 2 rfl) ?_
                refine lv_iconst (v := 2) hx hb dX1_withNumber_101 (by decide) ?_
                refine lv_iload_n hx hb dX1_withNumber_102 rfl (lv_at hl 3 rfl) ?_
                refine rMv (As := [.int 2, .int p1]) (rest := []) (f := r_trap st (2 : Int32) p1) ⟨hx, hb, hml, hown, hts⟩ (cr_trap l dC dI cI h0 qme0 qre1 tN tB H.size st (2 : Int32) p1) (cwV 2 hts (gV mL_1_93 mI_1_trap mX_1_trap mN_1 mB_1_trap) rfl rfl rfl (by decide +kernel) ⟨Nat.le_of_ble_eq_true rfl, Nat.le_of_ble_eq_true rfl⟩) hK hP hD hS hZ rfl hl.1 rfl (Nat.le_of_ble_eq_true rfl) dX1_withNumber_103 ⟨Nat.zero_le _, Nat.zero_le _⟩ (fun z49 ez49 H locs hP hD hS => ?_)
                have hP : va_P (dC, dI) vwCl (rW cI h0 qme0 qre1 z49) H := hP
                have hD : va_D (rA h0 qme0 qre1 s.heap.size) (rW cI h0 qme0 qre1 z49) := hD
                refine lv_goto (tgt := 122) hx hb dX1_withNumber_106 (by decide) ?_
                exact rVret (u := z49) hx hb hr hlocks (by subst ez49 ex2 ex1; exact (((if_pos c3).trans ((if_neg c29).trans ((if_pos c30).trans ((if_neg c37).trans ((if_neg c43).trans ((if_neg c44).trans ((if_pos c46).trans rfl)))))))).symm) hK hP hD hS dX1_withNumber_122
          · refine lv_aload_n hx hb dX1_withNumber_63 rfl (lv_at hl 2 rfl) ?_
            refine lv_iload_n hx hb dX1_withNumber_64 rfl (lv_at hl 5 rfl) ?_
            refine lv_iload hx hb dX1_withNumber_65 (lv_at hl 6 rfl) ?_
            refine lv_iload hx hb dX1_withNumber_67 (lv_at hl 1 rfl) ?_
            refine lv_iload hx hb dX1_withNumber_69 (lv_at hl 0 rfl) ?_
            refine lv_bipush (v := 32) hx hb dX1_withNumber_71 (by decide) ?_
            refine lv_icmp_ne (tgt := 80) hx hb dX1_withNumber_73 (by decide) (fun c50 => ?_) (fun c50 => ?_)
            · refine lv_iconst (v := 0) hx hb dX1_withNumber_80 (by decide) ?_
              refine W.callR (W.runS (As := [.int p4, .int x1, .int 0]) (rest := [.int p3, .ref h0]) ⟨hx, hb, hml, hown, hts⟩ (cr_right l p4 x1 (0 : Int32)) (cwS 3 hts (gS mL_1_148 mS_1_right mN_1 mB_1_right) rfl rfl rfl (by decide +kernel) ⟨Nat.le_of_ble_eq_true rfl, Nat.le_of_ble_eq_true rfl⟩) ⟨jblind, fun _ _ _ => ⟨rfl, trivial⟩⟩ rfl rfl hl.1 rfl (lv_room (Nat.le_of_ble_eq_true rfl)) dX1_withNumber_81 ⟨Nat.zero_le _, Nat.zero_le _⟩) ?_
              refine W.eq (g2 := F0 m 84 ls (.int (r_right p4 x1 (0 : Int32)) :: [.int p3, .ref h0])) rfl ?_
              refine lv_topi (fun x51 ex51 => ?_)
              refine rMv (As := [.int p3, .int x51]) (rest := []) (f := r_set st p3 x51) ⟨hx, hb, hml, hown, hts⟩ (cr_set l dC dI cI h0 qme0 qre1 tN tB H.size st p3 x51 hp3) (cwV 2 hts (gV mL_1_112 mI_1_set mX_1_set mN_1 mB_1_set) rfl rfl rfl (by decide +kernel) ⟨Nat.le_of_ble_eq_true rfl, Nat.le_of_ble_eq_true rfl⟩) hK hP hD hS hZ rfl hl.1 rfl (Nat.le_of_ble_eq_true rfl) dX1_withNumber_84 ⟨Nat.zero_le _, Nat.zero_le _⟩ (fun z52 ez52 H locs hP hD hS => ?_)
              have hP : va_P (dC, dI) vwCl (rW cI h0 qme0 qre1 z52) H := hP
              have hD : va_D (rA h0 qme0 qre1 s.heap.size) (rW cI h0 qme0 qre1 z52) := hD
              refine lv_goto (tgt := 122) hx hb dX1_withNumber_87 (by decide) ?_
              exact rVret (u := z52) hx hb hr hlocks (by subst ez52 ex51 ex2 ex1; exact (((if_pos c3).trans ((if_neg c29).trans ((if_pos c30).trans ((if_neg c37).trans ((if_pos c43).trans ((if_neg c50).trans rfl))))))).symm) hK hP hD hS dX1_withNumber_122
            · refine lv_iconst (v := 1) hx hb dX1_withNumber_76 (by decide) ?_
              refine lv_goto (tgt := 81) hx hb dX1_withNumber_77 (by decide) ?_
              refine W.callR (W.runS (As := [.int p4, .int x1, .int 1]) (rest := [.int p3, .ref h0]) ⟨hx, hb, hml, hown, hts⟩ (cr_right l p4 x1 (1 : Int32)) (cwS 3 hts (gS mL_1_148 mS_1_right mN_1 mB_1_right) rfl rfl rfl (by decide +kernel) ⟨Nat.le_of_ble_eq_true rfl, Nat.le_of_ble_eq_true rfl⟩) ⟨jblind, fun _ _ _ => ⟨rfl, trivial⟩⟩ rfl rfl hl.1 rfl (lv_room (Nat.le_of_ble_eq_true rfl)) dX1_withNumber_81 ⟨Nat.zero_le _, Nat.zero_le _⟩) ?_
              refine W.eq (g2 := F0 m 84 ls (.int (r_right p4 x1 (1 : Int32)) :: [.int p3, .ref h0])) rfl ?_
              refine lv_topi (fun x53 ex53 => ?_)
              refine rMv (As := [.int p3, .int x53]) (rest := []) (f := r_set st p3 x53) ⟨hx, hb, hml, hown, hts⟩ (cr_set l dC dI cI h0 qme0 qre1 tN tB H.size st p3 x53 hp3) (cwV 2 hts (gV mL_1_112 mI_1_set mX_1_set mN_1 mB_1_set) rfl rfl rfl (by decide +kernel) ⟨Nat.le_of_ble_eq_true rfl, Nat.le_of_ble_eq_true rfl⟩) hK hP hD hS hZ rfl hl.1 rfl (Nat.le_of_ble_eq_true rfl) dX1_withNumber_84 ⟨Nat.zero_le _, Nat.zero_le _⟩ (fun z54 ez54 H locs hP hD hS => ?_)
              have hP : va_P (dC, dI) vwCl (rW cI h0 qme0 qre1 z54) H := hP
              have hD : va_D (rA h0 qme0 qre1 s.heap.size) (rW cI h0 qme0 qre1 z54) := hD
              refine lv_goto (tgt := 122) hx hb dX1_withNumber_87 (by decide) ?_
              exact rVret (u := z54) hx hb hr hlocks (by subst ez54 ex53 ex2 ex1; exact (((if_pos c3).trans ((if_neg c29).trans ((if_pos c30).trans ((if_neg c37).trans ((if_pos c43).trans ((if_pos c50).trans rfl))))))).symm) hK hP hD hS dX1_withNumber_122
    · refine lv_aload_n hx hb dX1_withNumber_30 rfl (lv_at hl 2 rfl) ?_
      refine lv_iload_n hx hb dX1_withNumber_31 rfl (lv_at hl 5 rfl) ?_
      refine lv_iload hx hb dX1_withNumber_32 (lv_at hl 6 rfl) ?_
      refine lv_iload hx hb dX1_withNumber_34 (lv_at hl 1 rfl) ?_
      refine W.callR (W.runS (As := [.int x1]) (rest := [.int p4, .int p3, .ref h0]) ⟨hx, hb, hml, hown, hts⟩ (cr_power l x1) (cwS 1 hts (gS mL_1_145 mS_1_power mN_1 mB_1_power) rfl rfl rfl (by decide +kernel) ⟨Nat.le_of_ble_eq_true rfl, Nat.le_of_ble_eq_true rfl⟩) ⟨jblind, fun _ _ _ => ⟨rfl, trivial⟩⟩ rfl rfl hl.1 rfl (lv_room (Nat.le_of_ble_eq_true rfl)) dX1_withNumber_36 ⟨Nat.zero_le _, Nat.zero_le _⟩) ?_
      refine W.eq (g2 := F0 m 39 ls (.int (r_power x1) :: [.int p4, .int p3, .ref h0])) rfl ?_
      refine lv_topi (fun x55 ex55 => ?_)
      refine lv_imul hx hb dX1_withNumber_39 ?_
      refine rMv (As := [.int p3, .int (p4 * x55)]) (rest := []) (f := r_set st p3 (p4 * x55)) ⟨hx, hb, hml, hown, hts⟩ (cr_set l dC dI cI h0 qme0 qre1 tN tB H.size st p3 (p4 * x55) hp3) (cwV 2 hts (gV mL_1_112 mI_1_set mX_1_set mN_1 mB_1_set) rfl rfl rfl (by decide +kernel) ⟨Nat.le_of_ble_eq_true rfl, Nat.le_of_ble_eq_true rfl⟩) hK hP hD hS hZ rfl hl.1 rfl (Nat.le_of_ble_eq_true rfl) dX1_withNumber_40 ⟨Nat.zero_le _, Nat.zero_le _⟩ (fun z56 ez56 H locs hP hD hS => ?_)
      have hP : va_P (dC, dI) vwCl (rW cI h0 qme0 qre1 z56) H := hP
      have hD : va_D (rA h0 qme0 qre1 s.heap.size) (rW cI h0 qme0 qre1 z56) := hD
      refine lv_goto (tgt := 122) hx hb dX1_withNumber_43 (by decide) ?_
      exact rVret (u := z56) hx hb hr hlocks (by subst ez56 ex55 ex2 ex1; exact (((if_pos c3).trans ((if_pos c29).trans rfl))).symm) hK hP hD hS dX1_withNumber_122

def r_withTwo (st : RS) (p1 : Int32) (p2 : Int32) (p3 : Int32) (p4 : Int32) (p5 : Int32) : RS :=
  let x1 : Int32 := r_bits p1 (25 : Int32) (31 : Int32)
  let x2 : Int32 := r_bits p5 (0 : Int32) (4 : Int32)
  if x1 = (1 : Int32) then
    if (4 : Int32) ≤ p2 then
      let x27 : Int32 := r_quotient p2 p4 p5
      let z28 : RS := r_set st p3 x27
      z28
    else
      let x29 : Int32 := r_product p2 p4 p5
      let z30 : RS := r_set st p3 x29
      z30
  else
    if x1 = 0 then
      if p2 = (1 : Int32) then
        let x24 : Int32 := r_power x2
        let z25 : RS := r_set st p3 (p4 * x24)
        z25
      else
        if p2 = (5 : Int32) then
          let x22 : Int32 := r_right p4 x2 (0 : Int32)
          let z23 : RS := r_set st p3 x22
          z23
        else
          let x20 : Int32 := r_simple p2 p4 p5
          let z21 : RS := r_set st p3 x20
          z21
    else
      if x1 = (32 : Int32) then
        if p2 = 0 then
          if p2 = 0 then
            let z11 : RS := r_set st p3 (p4 - p5)
            z11
          else
            let x9 : Int32 := r_right p4 x2 (1 : Int32)
            let z10 : RS := r_set st p3 x9
            z10
        else
          if p2 = (5 : Int32) then
            if p2 = 0 then
              let z17 : RS := r_set st p3 (p4 - p5)
              z17
            else
              let x15 : Int32 := r_right p4 x2 (1 : Int32)
              let z16 : RS := r_set st p3 x15
              z16
          else
            let z13 : RS := r_trap st (2 : Int32) p1
            z13
      else
        let z6 : RS := r_trap st (2 : Int32) p1
        z6
set_option maxHeartbeats 4000000 in
set_option maxRecDepth 100000 in
theorem cr_withTwo (l : Launch) (dC : Nat → ClassId) (dI : Nat → Nat → Nat) (cI h0 qme0 qre1 tN tB : Nat) (sz : Nat) (st : RS) (p1 : Int32) (p2 : Int32) (p3 : Int32) (p4 : Int32) (p5 : Int32) (hp3 : vp_in p3 32)  : Met l yX1_withTwo (.code yX1_withTwo cX1_withTwo 8 none :: gBIG) ({ frames := 3, cells := 0, slots := 0, locals := 64 }) (va_Pc [.ref h0, .int p1, .int p2, .int p3, .int p4, .int p5] (rPre dC dI cI h0 qme0 qre1 tN tB sz st)) (va_Qv (fun v => v = r_withTwo st p1 p2 p3 p4 p5) (rB dC dI cI h0 qme0 qre1 (rA h0 qme0 qre1 sz)) (rA h0 qme0 qre1 sz)) 0 0 (rA h0 qme0 qre1 sz) := by
  refine Met.ofW (cc := cX1_withTwo) (maxL := 8) (ret := none) (by decide) rfl ?_
  intro p e s m args below meth c s₁ B hml hv
  obtain ⟨rfl, hsz, hP, hK, hD0, hZ⟩ := hv
  have hx := B.exec
  have hb := B.bytes
  have hr := B.returns
  have hts : ∀ w ∈ gBIG, w.before _ s = true := fun w h => atoms_spec (ws := (.code yX1_withTwo cX1_withTwo 8 none :: gBIG)) B.pre w (List.mem_cons_of_mem _ h)
  have hown : s.vm.findClass "PagedHartModel" = some m.cls := findClass_of_methodNamed B.named
  have hlocks := B.notSynchronized
  subst hsz
  have hD : va_D (rA h0 qme0 qre1 s.heap.size) (rW cI h0 qme0 qre1 st) := rD hD0
  have hS : va_S (rA h0 qme0 qre1 s.heap.size) s.heap s.heap [] := va_S.rf
  have hP : va_P (dC, dI) vwCl (rW cI h0 qme0 qre1 st) s.heap := hP
  have hl := lv_entry ([.ref h0, .int p1, .int p2, .int p3, .int p4, .int p5]) (n := 8) (Nat.le_of_ble_eq_true rfl)
  rw [lg_entry_eq]
  generalize (lg_sl ([.ref h0, .int p1, .int p2, .int p3, .int p4, .int p5]) ++ List.replicate (8 - (lg_sl ([.ref h0, .int p1, .int p2, .int p3, .int p4, .int p5])).length) Slot.unset).toArray = ls at hl ⊢
  refine jgo (P := fun H locs => va_P (dC, dI) vwCl (rW cI h0 qme0 qre1 st) H ∧ va_S (rA h0 qme0 qre1 s.heap.size) s.heap H locs) ⟨hP, hS⟩ (fun H locs hPS => ?_)
  obtain ⟨hP, hS⟩ := hPS
  have hl : lv_has ls 8 [(0, .ref h0), (1, .int p1), (2, .int p2), (3, .int p3), (4, .int p4), (5, .int p5)] := hl
  refine lv_iload_n hx hb dX1_withTwo_0 rfl (lv_at hl 1 rfl) ?_
  refine lv_bipush (v := 25) hx hb dX1_withTwo_1 (by decide) ?_
  refine lv_bipush (v := 31) hx hb dX1_withTwo_3 (by decide) ?_
  refine W.callR (W.runS (As := [.int p1, .int 25, .int 31]) (rest := []) ⟨hx, hb, hml, hown, hts⟩ (cr_bits l p1 (25 : Int32) (31 : Int32)) (cwS 3 hts (gS mL_1_46 mS_1_bits mN_1 mB_1_bits) rfl rfl rfl (by decide +kernel) ⟨Nat.le_of_ble_eq_true rfl, Nat.le_of_ble_eq_true rfl⟩) ⟨jblind, fun _ _ _ => ⟨rfl, trivial⟩⟩ rfl rfl hl.1 rfl (lv_room (Nat.le_of_ble_eq_true rfl)) dX1_withTwo_5 ⟨Nat.zero_le _, Nat.zero_le _⟩) ?_
  refine W.eq (g2 := F0 m 8 ls (.int (r_bits p1 (25 : Int32) (31 : Int32)) :: [])) rfl ?_
  refine lv_topi (fun x1 ex1 => ?_)
  refine lv_istore (lv' := [(6, .int x1), (0, .ref h0), (1, .int p1), (2, .int p2), (3, .int p3), (4, .int p4), (5, .int p5)]) hx hb dX1_withTwo_8 hl (by decide) rfl (fun ls hl => ?_)
  refine lv_iload hx hb dX1_withTwo_10 (lv_at hl 6 rfl) ?_
  refine lv_iconst (v := 0) hx hb dX1_withTwo_12 (by decide) ?_
  refine lv_iconst (v := 4) hx hb dX1_withTwo_13 (by decide) ?_
  refine W.callR (W.runS (As := [.int p5, .int 0, .int 4]) (rest := []) ⟨hx, hb, hml, hown, hts⟩ (cr_bits l p5 (0 : Int32) (4 : Int32)) (cwS 3 hts (gS mL_1_46 mS_1_bits mN_1 mB_1_bits) rfl rfl rfl (by decide +kernel) ⟨Nat.le_of_ble_eq_true rfl, Nat.le_of_ble_eq_true rfl⟩) ⟨jblind, fun _ _ _ => ⟨rfl, trivial⟩⟩ rfl rfl hl.1 rfl (lv_room (Nat.le_of_ble_eq_true rfl)) dX1_withTwo_14 ⟨Nat.zero_le _, Nat.zero_le _⟩) ?_
  refine W.eq (g2 := F0 m 17 ls (.int (r_bits p5 (0 : Int32) (4 : Int32)) :: [])) rfl ?_
  refine lv_topi (fun x2 ex2 => ?_)
  refine lv_istore (lv' := [(7, .int x2), (6, .int x1), (0, .ref h0), (1, .int p1), (2, .int p2), (3, .int p3), (4, .int p4), (5, .int p5)]) hx hb dX1_withTwo_17 hl (by decide) rfl (fun ls hl => ?_)
  refine lv_iload hx hb dX1_withTwo_19 (lv_at hl 1 rfl) ?_
  refine lv_iconst (v := 1) hx hb dX1_withTwo_21 (by decide) ?_
  refine lv_icmp_ne (tgt := 57) hx hb dX1_withTwo_22 (by decide) (fun c3 => ?_) (fun c3 => ?_)
  · refine lv_iload hx hb dX1_withTwo_57 (lv_at hl 1 rfl) ?_
    refine lv_if_ne (tgt := 110) hx hb dX1_withTwo_59 (by decide) (fun c4 => ?_) (fun c4 => ?_)
    · refine lv_iload hx hb dX1_withTwo_110 (lv_at hl 1 rfl) ?_
      refine lv_bipush (v := 32) hx hb dX1_withTwo_112 (by decide) ?_
      refine lv_icmp_ne (tgt := 154) hx hb dX1_withTwo_114 (by decide) (fun c5 => ?_) (fun c5 => ?_)
      · refine lv_aload_n hx hb dX1_withTwo_154 rfl (lv_at hl 2 rfl) ?_
        refine lv_iconst (v := 2) hx hb dX1_withTwo_155 (by decide) ?_
        refine lv_iload_n hx hb dX1_withTwo_156 rfl (lv_at hl 3 rfl) ?_
        refine rMv (As := [.int 2, .int p1]) (rest := []) (f := r_trap st (2 : Int32) p1) ⟨hx, hb, hml, hown, hts⟩ (cr_trap l dC dI cI h0 qme0 qre1 tN tB H.size st (2 : Int32) p1) (cwV 2 hts (gV mL_1_93 mI_1_trap mX_1_trap mN_1 mB_1_trap) rfl rfl rfl (by decide +kernel) ⟨Nat.le_of_ble_eq_true rfl, Nat.le_of_ble_eq_true rfl⟩) hK hP hD hS hZ rfl hl.1 rfl (Nat.le_of_ble_eq_true rfl) dX1_withTwo_157 ⟨Nat.zero_le _, Nat.zero_le _⟩ (fun z6 ez6 H locs hP hD hS => ?_)
        have hP : va_P (dC, dI) vwCl (rW cI h0 qme0 qre1 z6) H := hP
        have hD : va_D (rA h0 qme0 qre1 s.heap.size) (rW cI h0 qme0 qre1 z6) := hD
        exact rVret (u := z6) hx hb hr hlocks (by subst ez6 ex2 ex1; exact (((if_neg c3).trans ((if_neg c4).trans ((if_neg c5).trans rfl)))).symm) hK hP hD hS dX1_withTwo_160
      · refine lv_iload_n hx hb dX1_withTwo_117 rfl (lv_at hl 4 rfl) ?_
        refine lv_if_eq (tgt := 126) hx hb dX1_withTwo_118 (by decide) (fun c7 => ?_) (fun c7 => ?_)
        · refine lv_aload_n hx hb dX1_withTwo_126 rfl (lv_at hl 2 rfl) ?_
          refine lv_iload_n hx hb dX1_withTwo_127 rfl (lv_at hl 5 rfl) ?_
          refine lv_iload_n hx hb dX1_withTwo_128 rfl (lv_at hl 4 rfl) ?_
          refine lv_if_ne (tgt := 140) hx hb dX1_withTwo_129 (by decide) (fun c8 => ?_) (fun c8 => ?_)
          · refine lv_iload hx hb dX1_withTwo_140 (lv_at hl 6 rfl) ?_
            refine lv_iload hx hb dX1_withTwo_142 (lv_at hl 0 rfl) ?_
            refine lv_iconst (v := 1) hx hb dX1_withTwo_144 (by decide) ?_
            refine W.callR (W.runS (As := [.int p4, .int x2, .int 1]) (rest := [.int p3, .ref h0]) ⟨hx, hb, hml, hown, hts⟩ (cr_right l p4 x2 (1 : Int32)) (cwS 3 hts (gS mL_1_148 mS_1_right mN_1 mB_1_right) rfl rfl rfl (by decide +kernel) ⟨Nat.le_of_ble_eq_true rfl, Nat.le_of_ble_eq_true rfl⟩) ⟨jblind, fun _ _ _ => ⟨rfl, trivial⟩⟩ rfl rfl hl.1 rfl (lv_room (Nat.le_of_ble_eq_true rfl)) dX1_withTwo_145 ⟨Nat.zero_le _, Nat.zero_le _⟩) ?_
            refine W.eq (g2 := F0 m 148 ls (.int (r_right p4 x2 (1 : Int32)) :: [.int p3, .ref h0])) rfl ?_
            refine lv_topi (fun x9 ex9 => ?_)
            refine rMv (As := [.int p3, .int x9]) (rest := []) (f := r_set st p3 x9) ⟨hx, hb, hml, hown, hts⟩ (cr_set l dC dI cI h0 qme0 qre1 tN tB H.size st p3 x9 hp3) (cwV 2 hts (gV mL_1_112 mI_1_set mX_1_set mN_1 mB_1_set) rfl rfl rfl (by decide +kernel) ⟨Nat.le_of_ble_eq_true rfl, Nat.le_of_ble_eq_true rfl⟩) hK hP hD hS hZ rfl hl.1 rfl (Nat.le_of_ble_eq_true rfl) dX1_withTwo_148 ⟨Nat.zero_le _, Nat.zero_le _⟩ (fun z10 ez10 H locs hP hD hS => ?_)
            have hP : va_P (dC, dI) vwCl (rW cI h0 qme0 qre1 z10) H := hP
            have hD : va_D (rA h0 qme0 qre1 s.heap.size) (rW cI h0 qme0 qre1 z10) := hD
            refine lv_goto (tgt := 160) hx hb dX1_withTwo_151 (by decide) ?_
            exact rVret (u := z10) hx hb hr hlocks (by subst ez10 ex9 ex2 ex1; exact (((if_neg c3).trans ((if_neg c4).trans ((if_pos c5).trans ((if_pos c7).trans ((if_neg c8).trans rfl)))))).symm) hK hP hD hS dX1_withTwo_160
          · refine lv_iload hx hb dX1_withTwo_132 (lv_at hl 6 rfl) ?_
            refine lv_iload hx hb dX1_withTwo_134 (lv_at hl 7 rfl) ?_
            refine lv_isub hx hb dX1_withTwo_136 ?_
            refine lv_goto (tgt := 148) hx hb dX1_withTwo_137 (by decide) ?_
            refine rMv (As := [.int p3, .int (p4 - p5)]) (rest := []) (f := r_set st p3 (p4 - p5)) ⟨hx, hb, hml, hown, hts⟩ (cr_set l dC dI cI h0 qme0 qre1 tN tB H.size st p3 (p4 - p5) hp3) (cwV 2 hts (gV mL_1_112 mI_1_set mX_1_set mN_1 mB_1_set) rfl rfl rfl (by decide +kernel) ⟨Nat.le_of_ble_eq_true rfl, Nat.le_of_ble_eq_true rfl⟩) hK hP hD hS hZ rfl hl.1 rfl (Nat.le_of_ble_eq_true rfl) dX1_withTwo_148 ⟨Nat.zero_le _, Nat.zero_le _⟩ (fun z11 ez11 H locs hP hD hS => ?_)
            have hP : va_P (dC, dI) vwCl (rW cI h0 qme0 qre1 z11) H := hP
            have hD : va_D (rA h0 qme0 qre1 s.heap.size) (rW cI h0 qme0 qre1 z11) := hD
            refine lv_goto (tgt := 160) hx hb dX1_withTwo_151 (by decide) ?_
            exact rVret (u := z11) hx hb hr hlocks (by subst ez11 ex2 ex1; exact (((if_neg c3).trans ((if_neg c4).trans ((if_pos c5).trans ((if_pos c7).trans ((if_pos c8).trans rfl)))))).symm) hK hP hD hS dX1_withTwo_160
        · refine lv_iload_n hx hb dX1_withTwo_121 rfl (lv_at hl 4 rfl) ?_
          refine lv_iconst (v := 5) hx hb dX1_withTwo_122 (by decide) ?_
          refine lv_icmp_ne (tgt := 154) hx hb dX1_withTwo_123 (by decide) (fun c12 => ?_) (fun c12 => ?_)
          · refine lv_aload_n hx hb dX1_withTwo_154 rfl (lv_at hl 2 rfl) ?_
            refine lv_iconst (v := 2) hx hb dX1_withTwo_155 (by decide) ?_
            refine lv_iload_n hx hb dX1_withTwo_156 rfl (lv_at hl 3 rfl) ?_
            refine rMv (As := [.int 2, .int p1]) (rest := []) (f := r_trap st (2 : Int32) p1) ⟨hx, hb, hml, hown, hts⟩ (cr_trap l dC dI cI h0 qme0 qre1 tN tB H.size st (2 : Int32) p1) (cwV 2 hts (gV mL_1_93 mI_1_trap mX_1_trap mN_1 mB_1_trap) rfl rfl rfl (by decide +kernel) ⟨Nat.le_of_ble_eq_true rfl, Nat.le_of_ble_eq_true rfl⟩) hK hP hD hS hZ rfl hl.1 rfl (Nat.le_of_ble_eq_true rfl) dX1_withTwo_157 ⟨Nat.zero_le _, Nat.zero_le _⟩ (fun z13 ez13 H locs hP hD hS => ?_)
            have hP : va_P (dC, dI) vwCl (rW cI h0 qme0 qre1 z13) H := hP
            have hD : va_D (rA h0 qme0 qre1 s.heap.size) (rW cI h0 qme0 qre1 z13) := hD
            exact rVret (u := z13) hx hb hr hlocks (by subst ez13 ex2 ex1; exact (((if_neg c3).trans ((if_neg c4).trans ((if_pos c5).trans ((if_neg c7).trans ((if_neg c12).trans rfl)))))).symm) hK hP hD hS dX1_withTwo_160
          · refine lv_aload_n hx hb dX1_withTwo_126 rfl (lv_at hl 2 rfl) ?_
            refine lv_iload_n hx hb dX1_withTwo_127 rfl (lv_at hl 5 rfl) ?_
            refine lv_iload_n hx hb dX1_withTwo_128 rfl (lv_at hl 4 rfl) ?_
            refine lv_if_ne (tgt := 140) hx hb dX1_withTwo_129 (by decide) (fun c14 => ?_) (fun c14 => ?_)
            · refine lv_iload hx hb dX1_withTwo_140 (lv_at hl 6 rfl) ?_
              refine lv_iload hx hb dX1_withTwo_142 (lv_at hl 0 rfl) ?_
              refine lv_iconst (v := 1) hx hb dX1_withTwo_144 (by decide) ?_
              refine W.callR (W.runS (As := [.int p4, .int x2, .int 1]) (rest := [.int p3, .ref h0]) ⟨hx, hb, hml, hown, hts⟩ (cr_right l p4 x2 (1 : Int32)) (cwS 3 hts (gS mL_1_148 mS_1_right mN_1 mB_1_right) rfl rfl rfl (by decide +kernel) ⟨Nat.le_of_ble_eq_true rfl, Nat.le_of_ble_eq_true rfl⟩) ⟨jblind, fun _ _ _ => ⟨rfl, trivial⟩⟩ rfl rfl hl.1 rfl (lv_room (Nat.le_of_ble_eq_true rfl)) dX1_withTwo_145 ⟨Nat.zero_le _, Nat.zero_le _⟩) ?_
              refine W.eq (g2 := F0 m 148 ls (.int (r_right p4 x2 (1 : Int32)) :: [.int p3, .ref h0])) rfl ?_
              refine lv_topi (fun x15 ex15 => ?_)
              refine rMv (As := [.int p3, .int x15]) (rest := []) (f := r_set st p3 x15) ⟨hx, hb, hml, hown, hts⟩ (cr_set l dC dI cI h0 qme0 qre1 tN tB H.size st p3 x15 hp3) (cwV 2 hts (gV mL_1_112 mI_1_set mX_1_set mN_1 mB_1_set) rfl rfl rfl (by decide +kernel) ⟨Nat.le_of_ble_eq_true rfl, Nat.le_of_ble_eq_true rfl⟩) hK hP hD hS hZ rfl hl.1 rfl (Nat.le_of_ble_eq_true rfl) dX1_withTwo_148 ⟨Nat.zero_le _, Nat.zero_le _⟩ (fun z16 ez16 H locs hP hD hS => ?_)
              have hP : va_P (dC, dI) vwCl (rW cI h0 qme0 qre1 z16) H := hP
              have hD : va_D (rA h0 qme0 qre1 s.heap.size) (rW cI h0 qme0 qre1 z16) := hD
              refine lv_goto (tgt := 160) hx hb dX1_withTwo_151 (by decide) ?_
              exact rVret (u := z16) hx hb hr hlocks (by subst ez16 ex15 ex2 ex1; exact (((if_neg c3).trans ((if_neg c4).trans ((if_pos c5).trans ((if_neg c7).trans ((if_pos c12).trans ((if_neg c14).trans rfl))))))).symm) hK hP hD hS dX1_withTwo_160
            · refine lv_iload hx hb dX1_withTwo_132 (lv_at hl 6 rfl) ?_
              refine lv_iload hx hb dX1_withTwo_134 (lv_at hl 7 rfl) ?_
              refine lv_isub hx hb dX1_withTwo_136 ?_
              refine lv_goto (tgt := 148) hx hb dX1_withTwo_137 (by decide) ?_
              refine rMv (As := [.int p3, .int (p4 - p5)]) (rest := []) (f := r_set st p3 (p4 - p5)) ⟨hx, hb, hml, hown, hts⟩ (cr_set l dC dI cI h0 qme0 qre1 tN tB H.size st p3 (p4 - p5) hp3) (cwV 2 hts (gV mL_1_112 mI_1_set mX_1_set mN_1 mB_1_set) rfl rfl rfl (by decide +kernel) ⟨Nat.le_of_ble_eq_true rfl, Nat.le_of_ble_eq_true rfl⟩) hK hP hD hS hZ rfl hl.1 rfl (Nat.le_of_ble_eq_true rfl) dX1_withTwo_148 ⟨Nat.zero_le _, Nat.zero_le _⟩ (fun z17 ez17 H locs hP hD hS => ?_)
              have hP : va_P (dC, dI) vwCl (rW cI h0 qme0 qre1 z17) H := hP
              have hD : va_D (rA h0 qme0 qre1 s.heap.size) (rW cI h0 qme0 qre1 z17) := hD
              refine lv_goto (tgt := 160) hx hb dX1_withTwo_151 (by decide) ?_
              exact rVret (u := z17) hx hb hr hlocks (by subst ez17 ex2 ex1; exact (((if_neg c3).trans ((if_neg c4).trans ((if_pos c5).trans ((if_neg c7).trans ((if_pos c12).trans ((if_pos c14).trans rfl))))))).symm) hK hP hD hS dX1_withTwo_160
    · refine lv_aload_n hx hb dX1_withTwo_62 rfl (lv_at hl 2 rfl) ?_
      refine lv_iload_n hx hb dX1_withTwo_63 rfl (lv_at hl 5 rfl) ?_
      refine lv_iload_n hx hb dX1_withTwo_64 rfl (lv_at hl 4 rfl) ?_
      refine lv_iconst (v := 1) hx hb dX1_withTwo_65 (by decide) ?_
      refine lv_icmp_ne (tgt := 80) hx hb dX1_withTwo_66 (by decide) (fun c18 => ?_) (fun c18 => ?_)
      · refine lv_iload_n hx hb dX1_withTwo_80 rfl (lv_at hl 4 rfl) ?_
        refine lv_iconst (v := 5) hx hb dX1_withTwo_81 (by decide) ?_
        refine lv_icmp_ne (tgt := 96) hx hb dX1_withTwo_82 (by decide) (fun c19 => ?_) (fun c19 => ?_)
        · refine lv_iload_n hx hb dX1_withTwo_96 rfl (lv_at hl 4 rfl) ?_
          refine lv_iload hx hb dX1_withTwo_97 (lv_at hl 6 rfl) ?_
          refine lv_iload hx hb dX1_withTwo_99 (lv_at hl 7 rfl) ?_
          refine W.callR (W.runS (As := [.int p2, .int p4, .int p5]) (rest := [.int p3, .ref h0]) ⟨hx, hb, hml, hown, hts⟩ (cr_simple l p2 p4 p5) (cwS 3 hts (gS mL_1_152 mS_1_simple mN_1 mB_1_simple) rfl rfl rfl (by decide +kernel) ⟨Nat.le_of_ble_eq_true rfl, Nat.le_of_ble_eq_true rfl⟩) ⟨jblind, fun _ _ _ => ⟨rfl, trivial⟩⟩ rfl rfl hl.1 rfl (lv_room (Nat.le_of_ble_eq_true rfl)) dX1_withTwo_101 ⟨Nat.zero_le _, Nat.zero_le _⟩) ?_
          refine W.eq (g2 := F0 m 104 ls (.int (r_simple p2 p4 p5) :: [.int p3, .ref h0])) rfl ?_
          refine lv_topi (fun x20 ex20 => ?_)
          refine rMv (As := [.int p3, .int x20]) (rest := []) (f := r_set st p3 x20) ⟨hx, hb, hml, hown, hts⟩ (cr_set l dC dI cI h0 qme0 qre1 tN tB H.size st p3 x20 hp3) (cwV 2 hts (gV mL_1_112 mI_1_set mX_1_set mN_1 mB_1_set) rfl rfl rfl (by decide +kernel) ⟨Nat.le_of_ble_eq_true rfl, Nat.le_of_ble_eq_true rfl⟩) hK hP hD hS hZ rfl hl.1 rfl (Nat.le_of_ble_eq_true rfl) dX1_withTwo_104 ⟨Nat.zero_le _, Nat.zero_le _⟩ (fun z21 ez21 H locs hP hD hS => ?_)
          have hP : va_P (dC, dI) vwCl (rW cI h0 qme0 qre1 z21) H := hP
          have hD : va_D (rA h0 qme0 qre1 s.heap.size) (rW cI h0 qme0 qre1 z21) := hD
          refine lv_goto (tgt := 160) hx hb dX1_withTwo_107 (by decide) ?_
          exact rVret (u := z21) hx hb hr hlocks (by subst ez21 ex20 ex2 ex1; exact (((if_neg c3).trans ((if_pos c4).trans ((if_neg c18).trans ((if_neg c19).trans rfl))))).symm) hK hP hD hS dX1_withTwo_160
        · refine lv_iload hx hb dX1_withTwo_85 (lv_at hl 6 rfl) ?_
          refine lv_iload hx hb dX1_withTwo_87 (lv_at hl 0 rfl) ?_
          refine lv_iconst (v := 0) hx hb dX1_withTwo_89 (by decide) ?_
          refine W.callR (W.runS (As := [.int p4, .int x2, .int 0]) (rest := [.int p3, .ref h0]) ⟨hx, hb, hml, hown, hts⟩ (cr_right l p4 x2 (0 : Int32)) (cwS 3 hts (gS mL_1_148 mS_1_right mN_1 mB_1_right) rfl rfl rfl (by decide +kernel) ⟨Nat.le_of_ble_eq_true rfl, Nat.le_of_ble_eq_true rfl⟩) ⟨jblind, fun _ _ _ => ⟨rfl, trivial⟩⟩ rfl rfl hl.1 rfl (lv_room (Nat.le_of_ble_eq_true rfl)) dX1_withTwo_90 ⟨Nat.zero_le _, Nat.zero_le _⟩) ?_
          refine W.eq (g2 := F0 m 93 ls (.int (r_right p4 x2 (0 : Int32)) :: [.int p3, .ref h0])) rfl ?_
          refine lv_topi (fun x22 ex22 => ?_)
          refine lv_goto (tgt := 104) hx hb dX1_withTwo_93 (by decide) ?_
          refine rMv (As := [.int p3, .int x22]) (rest := []) (f := r_set st p3 x22) ⟨hx, hb, hml, hown, hts⟩ (cr_set l dC dI cI h0 qme0 qre1 tN tB H.size st p3 x22 hp3) (cwV 2 hts (gV mL_1_112 mI_1_set mX_1_set mN_1 mB_1_set) rfl rfl rfl (by decide +kernel) ⟨Nat.le_of_ble_eq_true rfl, Nat.le_of_ble_eq_true rfl⟩) hK hP hD hS hZ rfl hl.1 rfl (Nat.le_of_ble_eq_true rfl) dX1_withTwo_104 ⟨Nat.zero_le _, Nat.zero_le _⟩ (fun z23 ez23 H locs hP hD hS => ?_)
          have hP : va_P (dC, dI) vwCl (rW cI h0 qme0 qre1 z23) H := hP
          have hD : va_D (rA h0 qme0 qre1 s.heap.size) (rW cI h0 qme0 qre1 z23) := hD
          refine lv_goto (tgt := 160) hx hb dX1_withTwo_107 (by decide) ?_
          exact rVret (u := z23) hx hb hr hlocks (by subst ez23 ex22 ex2 ex1; exact (((if_neg c3).trans ((if_pos c4).trans ((if_neg c18).trans ((if_pos c19).trans rfl))))).symm) hK hP hD hS dX1_withTwo_160
      · refine lv_iload hx hb dX1_withTwo_69 (lv_at hl 6 rfl) ?_
        refine lv_iload hx hb dX1_withTwo_71 (lv_at hl 0 rfl) ?_
        refine W.callR (W.runS (As := [.int x2]) (rest := [.int p4, .int p3, .ref h0]) ⟨hx, hb, hml, hown, hts⟩ (cr_power l x2) (cwS 1 hts (gS mL_1_145 mS_1_power mN_1 mB_1_power) rfl rfl rfl (by decide +kernel) ⟨Nat.le_of_ble_eq_true rfl, Nat.le_of_ble_eq_true rfl⟩) ⟨jblind, fun _ _ _ => ⟨rfl, trivial⟩⟩ rfl rfl hl.1 rfl (lv_room (Nat.le_of_ble_eq_true rfl)) dX1_withTwo_73 ⟨Nat.zero_le _, Nat.zero_le _⟩) ?_
        refine W.eq (g2 := F0 m 76 ls (.int (r_power x2) :: [.int p4, .int p3, .ref h0])) rfl ?_
        refine lv_topi (fun x24 ex24 => ?_)
        refine lv_imul hx hb dX1_withTwo_76 ?_
        refine lv_goto (tgt := 104) hx hb dX1_withTwo_77 (by decide) ?_
        refine rMv (As := [.int p3, .int (p4 * x24)]) (rest := []) (f := r_set st p3 (p4 * x24)) ⟨hx, hb, hml, hown, hts⟩ (cr_set l dC dI cI h0 qme0 qre1 tN tB H.size st p3 (p4 * x24) hp3) (cwV 2 hts (gV mL_1_112 mI_1_set mX_1_set mN_1 mB_1_set) rfl rfl rfl (by decide +kernel) ⟨Nat.le_of_ble_eq_true rfl, Nat.le_of_ble_eq_true rfl⟩) hK hP hD hS hZ rfl hl.1 rfl (Nat.le_of_ble_eq_true rfl) dX1_withTwo_104 ⟨Nat.zero_le _, Nat.zero_le _⟩ (fun z25 ez25 H locs hP hD hS => ?_)
        have hP : va_P (dC, dI) vwCl (rW cI h0 qme0 qre1 z25) H := hP
        have hD : va_D (rA h0 qme0 qre1 s.heap.size) (rW cI h0 qme0 qre1 z25) := hD
        refine lv_goto (tgt := 160) hx hb dX1_withTwo_107 (by decide) ?_
        exact rVret (u := z25) hx hb hr hlocks (by subst ez25 ex24 ex2 ex1; exact (((if_neg c3).trans ((if_pos c4).trans ((if_pos c18).trans rfl)))).symm) hK hP hD hS dX1_withTwo_160
  · refine lv_aload_n hx hb dX1_withTwo_25 rfl (lv_at hl 2 rfl) ?_
    refine lv_iload_n hx hb dX1_withTwo_26 rfl (lv_at hl 5 rfl) ?_
    refine lv_iload_n hx hb dX1_withTwo_27 rfl (lv_at hl 4 rfl) ?_
    refine lv_iconst (v := 4) hx hb dX1_withTwo_28 (by decide) ?_
    refine lv_icmp_ge (tgt := 43) hx hb dX1_withTwo_29 (by decide) (fun c26 => ?_) (fun c26 => ?_)
    · refine lv_iload_n hx hb dX1_withTwo_43 rfl (lv_at hl 4 rfl) ?_
      refine lv_iload hx hb dX1_withTwo_44 (lv_at hl 6 rfl) ?_
      refine lv_iload hx hb dX1_withTwo_46 (lv_at hl 7 rfl) ?_
      refine W.callR (W.runS (As := [.int p2, .int p4, .int p5]) (rest := [.int p3, .ref h0]) ⟨hx, hb, hml, hown, hts⟩ (cr_quotient l p2 p4 p5) (cwS 3 hts (gS mL_1_158 mS_1_quotient mN_1 mB_1_quotient) rfl rfl rfl (by decide +kernel) ⟨Nat.le_of_ble_eq_true rfl, Nat.le_of_ble_eq_true rfl⟩) ⟨jblind, fun _ _ _ => ⟨rfl, trivial⟩⟩ rfl rfl hl.1 rfl (lv_room (Nat.le_of_ble_eq_true rfl)) dX1_withTwo_48 ⟨Nat.zero_le _, Nat.zero_le _⟩) ?_
      refine W.eq (g2 := F0 m 51 ls (.int (r_quotient p2 p4 p5) :: [.int p3, .ref h0])) rfl ?_
      refine lv_topi (fun x27 ex27 => ?_)
      refine rMv (As := [.int p3, .int x27]) (rest := []) (f := r_set st p3 x27) ⟨hx, hb, hml, hown, hts⟩ (cr_set l dC dI cI h0 qme0 qre1 tN tB H.size st p3 x27 hp3) (cwV 2 hts (gV mL_1_112 mI_1_set mX_1_set mN_1 mB_1_set) rfl rfl rfl (by decide +kernel) ⟨Nat.le_of_ble_eq_true rfl, Nat.le_of_ble_eq_true rfl⟩) hK hP hD hS hZ rfl hl.1 rfl (Nat.le_of_ble_eq_true rfl) dX1_withTwo_51 ⟨Nat.zero_le _, Nat.zero_le _⟩ (fun z28 ez28 H locs hP hD hS => ?_)
      have hP : va_P (dC, dI) vwCl (rW cI h0 qme0 qre1 z28) H := hP
      have hD : va_D (rA h0 qme0 qre1 s.heap.size) (rW cI h0 qme0 qre1 z28) := hD
      refine lv_goto (tgt := 160) hx hb dX1_withTwo_54 (by decide) ?_
      exact rVret (u := z28) hx hb hr hlocks (by subst ez28 ex27 ex2 ex1; exact (((if_pos c3).trans ((if_pos c26).trans rfl))).symm) hK hP hD hS dX1_withTwo_160
    · refine lv_iload_n hx hb dX1_withTwo_32 rfl (lv_at hl 4 rfl) ?_
      refine lv_iload hx hb dX1_withTwo_33 (lv_at hl 6 rfl) ?_
      refine lv_iload hx hb dX1_withTwo_35 (lv_at hl 7 rfl) ?_
      refine W.callR (W.runS (As := [.int p2, .int p4, .int p5]) (rest := [.int p3, .ref h0]) ⟨hx, hb, hml, hown, hts⟩ (cr_product l p2 p4 p5) (cwS 3 hts (gS mL_1_155 mS_1_product mN_1 mB_1_product) rfl rfl rfl (by decide +kernel) ⟨Nat.le_of_ble_eq_true rfl, Nat.le_of_ble_eq_true rfl⟩) ⟨jblind, fun _ _ _ => ⟨rfl, trivial⟩⟩ rfl rfl hl.1 rfl (lv_room (Nat.le_of_ble_eq_true rfl)) dX1_withTwo_37 ⟨Nat.zero_le _, Nat.zero_le _⟩) ?_
      refine W.eq (g2 := F0 m 40 ls (.int (r_product p2 p4 p5) :: [.int p3, .ref h0])) rfl ?_
      refine lv_topi (fun x29 ex29 => ?_)
      refine lv_goto (tgt := 51) hx hb dX1_withTwo_40 (by decide) ?_
      refine rMv (As := [.int p3, .int x29]) (rest := []) (f := r_set st p3 x29) ⟨hx, hb, hml, hown, hts⟩ (cr_set l dC dI cI h0 qme0 qre1 tN tB H.size st p3 x29 hp3) (cwV 2 hts (gV mL_1_112 mI_1_set mX_1_set mN_1 mB_1_set) rfl rfl rfl (by decide +kernel) ⟨Nat.le_of_ble_eq_true rfl, Nat.le_of_ble_eq_true rfl⟩) hK hP hD hS hZ rfl hl.1 rfl (Nat.le_of_ble_eq_true rfl) dX1_withTwo_51 ⟨Nat.zero_le _, Nat.zero_le _⟩ (fun z30 ez30 H locs hP hD hS => ?_)
      have hP : va_P (dC, dI) vwCl (rW cI h0 qme0 qre1 z30) H := hP
      have hD : va_D (rA h0 qme0 qre1 s.heap.size) (rW cI h0 qme0 qre1 z30) := hD
      refine lv_goto (tgt := 160) hx hb dX1_withTwo_54 (by decide) ?_
      exact rVret (u := z30) hx hb hr hlocks (by subst ez30 ex29 ex2 ex1; exact (((if_pos c3).trans ((if_neg c26).trans rfl))).symm) hK hP hD hS dX1_withTwo_160
