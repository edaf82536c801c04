def h_slotOf (p1 : Int32) : Int32 :=
  if (hNum (0 : Int32).toNatClampNeg) = p1 then
    (0 : Int32)
  else
    if (hNum (1 : Int32).toNatClampNeg) = p1 then
      (1 : Int32)
    else
      if (hNum (2 : Int32).toNatClampNeg) = p1 then
        (2 : Int32)
      else
        if (hNum (3 : Int32).toNatClampNeg) = p1 then
          (3 : Int32)
        else
          if (hNum (4 : Int32).toNatClampNeg) = p1 then
            (4 : Int32)
          else
            if (hNum (5 : Int32).toNatClampNeg) = p1 then
              (5 : Int32)
            else
              if (hNum (6 : Int32).toNatClampNeg) = p1 then
                (6 : Int32)
              else
                if (hNum (7 : Int32).toNatClampNeg) = p1 then
                  (7 : Int32)
                else
                  if (hNum (8 : Int32).toNatClampNeg) = p1 then
                    (8 : Int32)
                  else
                    ((-1) : Int32)
set_option maxHeartbeats 4000000 in
set_option maxRecDepth 100000 in
theorem ch_slotOf (l : Launch) (tN tB : Nat) (p1 : Int32) : Met l yX0_slotOf (.code yX0_slotOf cX0_slotOf 2 (some .int) :: gBIG) ({ frames := 0, cells := 0, slots := 0, locals := 0 }) (va_Pc [.int p1] (gZp tN tB)) (QcRead (h_slotOf p1)) 0 0 (fun _ => False) := by
  refine Met.ofW (cc := cX0_slotOf) (maxL := 2) (ret := (some .int)) (by decide) rfl ?_
  intro p e s m args below meth c s₁ B hml hv
  obtain ⟨rfl, hZ⟩ := hv
  have hx := B.exec
  have hb := B.bytes
  have hr := B.returns
  have hts : ∀ w ∈ gBIG, w.before _ s = true := fun w h => atoms_spec (ws := (.code yX0_slotOf cX0_slotOf 2 (some .int) :: gBIG)) B.pre w (List.mem_cons_of_mem _ h)
  have hown : s.vm.findClass "PagedHart" = some m.cls := findClass_of_methodNamed B.named
  have hlocks := B.notSynchronized
  have hS : va_S (fun _ => False) s.heap s.heap [] := va_S.rf
  have hl := lv_entry ([.int p1]) (n := 2) (Nat.le_of_ble_eq_true rfl)
  rw [lg_entry_eq]
  generalize (lg_sl ([.int p1]) ++ List.replicate (2 - (lg_sl ([.int p1])).length) Slot.unset).toArray = ls at hl ⊢
  have hl : lv_has ls 2 [(0, .int p1)] := hl
  refine lv_iconst (v := 0) hx hb dX0_slotOf_0 (by decide) ?_
  refine lv_istore_n (lv' := [(1, .int 0), (0, .int p1)]) hx hb dX0_slotOf_1 rfl hl (by decide) rfl (fun ls hl => ?_)
  refine lv_iload_n hx hb dX0_slotOf_2 rfl (lv_at hl 0 rfl) ?_
  refine lv_bipush (v := 9) hx hb dX0_slotOf_3 (by decide) ?_
  refine lv_icmp_ge (tgt := 25) hx hb dX0_slotOf_5 (by decide) (fun c1 => ?_) (fun c1 => ?_)
  · exact absurd c1 (by decide)
  · refine va_gets hx hb hZ.1 hS hown (hts _ mF_0_93) (fun _ h => h) dX0_slotOf_8 ?_
    refine lv_iload_n hx hb dX0_slotOf_11 rfl (lv_at hl 0 rfl) ?_
    refine va_ti hx hb hZ.2.1 hS (jin (by decide)) (v := .int (hNum (0 : Int32).toNatClampNeg)) rfl dX0_slotOf_12 ?_
    refine lv_iload_n hx hb dX0_slotOf_13 rfl (lv_at hl 1 rfl) ?_
    refine lv_icmp_ne (tgt := 19) hx hb dX0_slotOf_14 (by decide) (fun c2 => ?_) (fun c2 => ?_)
    · refine lv_iinc (v := 1) (lv' := [(1, .int 1), (0, .int p1)]) hx hb dX0_slotOf_19 hl (k := 0) rfl (by decide) (by decide) rfl (fun ls hl => ?_)
      refine lv_goto (tgt := 2) hx hb dX0_slotOf_22 (by decide) ?_
      refine lv_iload_n hx hb dX0_slotOf_2 rfl (lv_at hl 0 rfl) ?_
      refine lv_bipush (v := 9) hx hb dX0_slotOf_3 (by decide) ?_
      refine lv_icmp_ge (tgt := 25) hx hb dX0_slotOf_5 (by decide) (fun c3 => ?_) (fun c3 => ?_)
      · exact absurd c3 (by decide)
      · refine va_gets hx hb hZ.1 hS hown (hts _ mF_0_93) (fun _ h => h) dX0_slotOf_8 ?_
        refine lv_iload_n hx hb dX0_slotOf_11 rfl (lv_at hl 0 rfl) ?_
        refine va_ti hx hb hZ.2.1 hS (jin (by decide)) (v := .int (hNum (1 : Int32).toNatClampNeg)) rfl dX0_slotOf_12 ?_
        refine lv_iload_n hx hb dX0_slotOf_13 rfl (lv_at hl 1 rfl) ?_
        refine lv_icmp_ne (tgt := 19) hx hb dX0_slotOf_14 (by decide) (fun c4 => ?_) (fun c4 => ?_)
        · refine lv_iinc (v := 2) (lv' := [(1, .int 2), (0, .int p1)]) hx hb dX0_slotOf_19 hl (k := 0) rfl (by decide) (by decide) rfl (fun ls hl => ?_)
          refine lv_goto (tgt := 2) hx hb dX0_slotOf_22 (by decide) ?_
          refine lv_iload_n hx hb dX0_slotOf_2 rfl (lv_at hl 0 rfl) ?_
          refine lv_bipush (v := 9) hx hb dX0_slotOf_3 (by decide) ?_
          refine lv_icmp_ge (tgt := 25) hx hb dX0_slotOf_5 (by decide) (fun c5 => ?_) (fun c5 => ?_)
          · exact absurd c5 (by decide)
          · refine va_gets hx hb hZ.1 hS hown (hts _ mF_0_93) (fun _ h => h) dX0_slotOf_8 ?_
            refine lv_iload_n hx hb dX0_slotOf_11 rfl (lv_at hl 0 rfl) ?_
            refine va_ti hx hb hZ.2.1 hS (jin (by decide)) (v := .int (hNum (2 : Int32).toNatClampNeg)) rfl dX0_slotOf_12 ?_
            refine lv_iload_n hx hb dX0_slotOf_13 rfl (lv_at hl 1 rfl) ?_
            refine lv_icmp_ne (tgt := 19) hx hb dX0_slotOf_14 (by decide) (fun c6 => ?_) (fun c6 => ?_)
            · refine lv_iinc (v := 3) (lv' := [(1, .int 3), (0, .int p1)]) hx hb dX0_slotOf_19 hl (k := 0) rfl (by decide) (by decide) rfl (fun ls hl => ?_)
              refine lv_goto (tgt := 2) hx hb dX0_slotOf_22 (by decide) ?_
              refine lv_iload_n hx hb dX0_slotOf_2 rfl (lv_at hl 0 rfl) ?_
              refine lv_bipush (v := 9) hx hb dX0_slotOf_3 (by decide) ?_
              refine lv_icmp_ge (tgt := 25) hx hb dX0_slotOf_5 (by decide) (fun c7 => ?_) (fun c7 => ?_)
              · exact absurd c7 (by decide)
              · refine va_gets hx hb hZ.1 hS hown (hts _ mF_0_93) (fun _ h => h) dX0_slotOf_8 ?_
                refine lv_iload_n hx hb dX0_slotOf_11 rfl (lv_at hl 0 rfl) ?_
                refine va_ti hx hb hZ.2.1 hS (jin (by decide)) (v := .int (hNum (3 : Int32).toNatClampNeg)) rfl dX0_slotOf_12 ?_
                refine lv_iload_n hx hb dX0_slotOf_13 rfl (lv_at hl 1 rfl) ?_
                refine lv_icmp_ne (tgt := 19) hx hb dX0_slotOf_14 (by decide) (fun c8 => ?_) (fun c8 => ?_)
                · refine lv_iinc (v := 4) (lv' := [(1, .int 4), (0, .int p1)]) hx hb dX0_slotOf_19 hl (k := 0) rfl (by decide) (by decide) rfl (fun ls hl => ?_)
                  refine lv_goto (tgt := 2) hx hb dX0_slotOf_22 (by decide) ?_
                  refine lv_iload_n hx hb dX0_slotOf_2 rfl (lv_at hl 0 rfl) ?_
                  refine lv_bipush (v := 9) hx hb dX0_slotOf_3 (by decide) ?_
                  refine lv_icmp_ge (tgt := 25) hx hb dX0_slotOf_5 (by decide) (fun c9 => ?_) (fun c9 => ?_)
                  · exact absurd c9 (by decide)
                  · refine va_gets hx hb hZ.1 hS hown (hts _ mF_0_93) (fun _ h => h) dX0_slotOf_8 ?_
                    refine lv_iload_n hx hb dX0_slotOf_11 rfl (lv_at hl 0 rfl) ?_
                    refine va_ti hx hb hZ.2.1 hS (jin (by decide)) (v := .int (hNum (4 : Int32).toNatClampNeg)) rfl dX0_slotOf_12 ?_
                    refine lv_iload_n hx hb dX0_slotOf_13 rfl (lv_at hl 1 rfl) ?_
                    refine lv_icmp_ne (tgt := 19) hx hb dX0_slotOf_14 (by decide) (fun c10 => ?_) (fun c10 => ?_)
                    · refine lv_iinc (v := 5) (lv' := [(1, .int 5), (0, .int p1)]) hx hb dX0_slotOf_19 hl (k := 0) rfl (by decide) (by decide) rfl (fun ls hl => ?_)
                      refine lv_goto (tgt := 2) hx hb dX0_slotOf_22 (by decide) ?_
                      refine lv_iload_n hx hb dX0_slotOf_2 rfl (lv_at hl 0 rfl) ?_
                      refine lv_bipush (v := 9) hx hb dX0_slotOf_3 (by decide) ?_
                      refine lv_icmp_ge (tgt := 25) hx hb dX0_slotOf_5 (by decide) (fun c11 => ?_) (fun c11 => ?_)
                      · exact absurd c11 (by decide)
                      · refine va_gets hx hb hZ.1 hS hown (hts _ mF_0_93) (fun _ h => h) dX0_slotOf_8 ?_
                        refine lv_iload_n hx hb dX0_slotOf_11 rfl (lv_at hl 0 rfl) ?_
                        refine va_ti hx hb hZ.2.1 hS (jin (by decide)) (v := .int (hNum (5 : Int32).toNatClampNeg)) rfl dX0_slotOf_12 ?_
                        refine lv_iload_n hx hb dX0_slotOf_13 rfl (lv_at hl 1 rfl) ?_
                        refine lv_icmp_ne (tgt := 19) hx hb dX0_slotOf_14 (by decide) (fun c12 => ?_) (fun c12 => ?_)
                        · refine lv_iinc (v := 6) (lv' := [(1, .int 6), (0, .int p1)]) hx hb dX0_slotOf_19 hl (k := 0) rfl (by decide) (by decide) rfl (fun ls hl => ?_)
                          refine lv_goto (tgt := 2) hx hb dX0_slotOf_22 (by decide) ?_
                          refine lv_iload_n hx hb dX0_slotOf_2 rfl (lv_at hl 0 rfl) ?_
                          refine lv_bipush (v := 9) hx hb dX0_slotOf_3 (by decide) ?_
                          refine lv_icmp_ge (tgt := 25) hx hb dX0_slotOf_5 (by decide) (fun c13 => ?_) (fun c13 => ?_)
                          · exact absurd c13 (by decide)
                          · refine va_gets hx hb hZ.1 hS hown (hts _ mF_0_93) (fun _ h => h) dX0_slotOf_8 ?_
                            refine lv_iload_n hx hb dX0_slotOf_11 rfl (lv_at hl 0 rfl) ?_
                            refine va_ti hx hb hZ.2.1 hS (jin (by decide)) (v := .int (hNum (6 : Int32).toNatClampNeg)) rfl dX0_slotOf_12 ?_
                            refine lv_iload_n hx hb dX0_slotOf_13 rfl (lv_at hl 1 rfl) ?_
                            refine lv_icmp_ne (tgt := 19) hx hb dX0_slotOf_14 (by decide) (fun c14 => ?_) (fun c14 => ?_)
                            · refine lv_iinc (v := 7) (lv' := [(1, .int 7), (0, .int p1)]) hx hb dX0_slotOf_19 hl (k := 0) rfl (by decide) (by decide) rfl (fun ls hl => ?_)
                              refine lv_goto (tgt := 2) hx hb dX0_slotOf_22 (by decide) ?_
                              refine lv_iload_n hx hb dX0_slotOf_2 rfl (lv_at hl 0 rfl) ?_
                              refine lv_bipush (v := 9) hx hb dX0_slotOf_3 (by decide) ?_
                              refine lv_icmp_ge (tgt := 25) hx hb dX0_slotOf_5 (by decide) (fun c15 => ?_) (fun c15 => ?_)
                              · exact absurd c15 (by decide)
                              · refine va_gets hx hb hZ.1 hS hown (hts _ mF_0_93) (fun _ h => h) dX0_slotOf_8 ?_
                                refine lv_iload_n hx hb dX0_slotOf_11 rfl (lv_at hl 0 rfl) ?_
                                refine va_ti hx hb hZ.2.1 hS (jin (by decide)) (v := .int (hNum (7 : Int32).toNatClampNeg)) rfl dX0_slotOf_12 ?_
                                refine lv_iload_n hx hb dX0_slotOf_13 rfl (lv_at hl 1 rfl) ?_
                                refine lv_icmp_ne (tgt := 19) hx hb dX0_slotOf_14 (by decide) (fun c16 => ?_) (fun c16 => ?_)
                                · refine lv_iinc (v := 8) (lv' := [(1, .int 8), (0, .int p1)]) hx hb dX0_slotOf_19 hl (k := 0) rfl (by decide) (by decide) rfl (fun ls hl => ?_)
                                  refine lv_goto (tgt := 2) hx hb dX0_slotOf_22 (by decide) ?_
                                  refine lv_iload_n hx hb dX0_slotOf_2 rfl (lv_at hl 0 rfl) ?_
                                  refine lv_bipush (v := 9) hx hb dX0_slotOf_3 (by decide) ?_
                                  refine lv_icmp_ge (tgt := 25) hx hb dX0_slotOf_5 (by decide) (fun c17 => ?_) (fun c17 => ?_)
                                  · exact absurd c17 (by decide)
                                  · refine va_gets hx hb hZ.1 hS hown (hts _ mF_0_93) (fun _ h => h) dX0_slotOf_8 ?_
                                    refine lv_iload_n hx hb dX0_slotOf_11 rfl (lv_at hl 0 rfl) ?_
                                    refine va_ti hx hb hZ.2.1 hS (jin (by decide)) (v := .int (hNum (8 : Int32).toNatClampNeg)) rfl dX0_slotOf_12 ?_
                                    refine lv_iload_n hx hb dX0_slotOf_13 rfl (lv_at hl 1 rfl) ?_
                                    refine lv_icmp_ne (tgt := 19) hx hb dX0_slotOf_14 (by decide) (fun c18 => ?_) (fun c18 => ?_)
                                    · refine lv_iinc (v := 9) (lv' := [(1, .int 9), (0, .int p1)]) hx hb dX0_slotOf_19 hl (k := 0) rfl (by decide) (by decide) rfl (fun ls hl => ?_)
                                      refine lv_goto (tgt := 2) hx hb dX0_slotOf_22 (by decide) ?_
                                      refine lv_iload_n hx hb dX0_slotOf_2 rfl (lv_at hl 0 rfl) ?_
                                      refine lv_bipush (v := 9) hx hb dX0_slotOf_3 (by decide) ?_
                                      refine lv_icmp_ge (tgt := 25) hx hb dX0_slotOf_5 (by decide) (fun c19 => ?_) (fun c19 => ?_)
                                      · refine lv_iconst (v := (-1)) hx hb dX0_slotOf_25 (by decide) ?_
                                        exact W.iret (v := (-1)) hx hb hr (fun t ht hW => ⟨jq (by exact (((if_neg c2).trans ((if_neg c4).trans ((if_neg c6).trans ((if_neg c8).trans ((if_neg c10).trans ((if_neg c12).trans ((if_neg c14).trans ((if_neg c16).trans ((if_neg c18).trans rfl)))))))))).symm), ht⟩) (fun q h => by cases h) dX0_slotOf_26
                                      · exact (c19 (by decide)).elim
                                    · refine lv_iload_n hx hb dX0_slotOf_17 rfl (lv_at hl 0 rfl) ?_
                                      exact W.iret (v := 8) hx hb hr (fun t ht hW => ⟨jq (by exact (((if_neg c2).trans ((if_neg c4).trans ((if_neg c6).trans ((if_neg c8).trans ((if_neg c10).trans ((if_neg c12).trans ((if_neg c14).trans ((if_neg c16).trans ((if_pos c18).trans rfl)))))))))).symm), ht⟩) (fun q h => by cases h) dX0_slotOf_18
                                · refine lv_iload_n hx hb dX0_slotOf_17 rfl (lv_at hl 0 rfl) ?_
                                  exact W.iret (v := 7) hx hb hr (fun t ht hW => ⟨jq (by exact (((if_neg c2).trans ((if_neg c4).trans ((if_neg c6).trans ((if_neg c8).trans ((if_neg c10).trans ((if_neg c12).trans ((if_neg c14).trans ((if_pos c16).trans rfl))))))))).symm), ht⟩) (fun q h => by cases h) dX0_slotOf_18
                            · refine lv_iload_n hx hb dX0_slotOf_17 rfl (lv_at hl 0 rfl) ?_
                              exact W.iret (v := 6) hx hb hr (fun t ht hW => ⟨jq (by exact (((if_neg c2).trans ((if_neg c4).trans ((if_neg c6).trans ((if_neg c8).trans ((if_neg c10).trans ((if_neg c12).trans ((if_pos c14).trans rfl)))))))).symm), ht⟩) (fun q h => by cases h) dX0_slotOf_18
                        · refine lv_iload_n hx hb dX0_slotOf_17 rfl (lv_at hl 0 rfl) ?_
                          exact W.iret (v := 5) hx hb hr (fun t ht hW => ⟨jq (by exact (((if_neg c2).trans ((if_neg c4).trans ((if_neg c6).trans ((if_neg c8).trans ((if_neg c10).trans ((if_pos c12).trans rfl))))))).symm), ht⟩) (fun q h => by cases h) dX0_slotOf_18
                    · refine lv_iload_n hx hb dX0_slotOf_17 rfl (lv_at hl 0 rfl) ?_
                      exact W.iret (v := 4) hx hb hr (fun t ht hW => ⟨jq (by exact (((if_neg c2).trans ((if_neg c4).trans ((if_neg c6).trans ((if_neg c8).trans ((if_pos c10).trans rfl)))))).symm), ht⟩) (fun q h => by cases h) dX0_slotOf_18
                · refine lv_iload_n hx hb dX0_slotOf_17 rfl (lv_at hl 0 rfl) ?_
                  exact W.iret (v := 3) hx hb hr (fun t ht hW => ⟨jq (by exact (((if_neg c2).trans ((if_neg c4).trans ((if_neg c6).trans ((if_pos c8).trans rfl))))).symm), ht⟩) (fun q h => by cases h) dX0_slotOf_18
            · refine lv_iload_n hx hb dX0_slotOf_17 rfl (lv_at hl 0 rfl) ?_
              exact W.iret (v := 2) hx hb hr (fun t ht hW => ⟨jq (by exact (((if_neg c2).trans ((if_neg c4).trans ((if_pos c6).trans rfl)))).symm), ht⟩) (fun q h => by cases h) dX0_slotOf_18
        · refine lv_iload_n hx hb dX0_slotOf_17 rfl (lv_at hl 0 rfl) ?_
          exact W.iret (v := 1) hx hb hr (fun t ht hW => ⟨jq (by exact (((if_neg c2).trans ((if_pos c4).trans rfl))).symm), ht⟩) (fun q h => by cases h) dX0_slotOf_18
    · refine lv_iload_n hx hb dX0_slotOf_17 rfl (lv_at hl 0 rfl) ?_
      exact W.iret (v := 0) hx hb hr (fun t ht hW => ⟨jq (by exact (((if_pos c2).trans rfl)).symm), ht⟩) (fun q h => by cases h) dX0_slotOf_18
theorem h_in3 {a : Int32} (h : 0 ≤ h_slotOf a) : vp_in (h_slotOf a) 9 := by
  revert h
  unfold h_slotOf
  (repeat' split) <;> intro h <;> first | exact jin (by decide) | exact absurd h (by decide)

def h_permits (st : HS) (p1 : Int32) (p2 : Int32) : Int32 :=
  if p2 = 0 then
    let x27 : Int32 := (65 : Int32) ||| (8 : Int32)
    if (p1 &&& (6 : Int32)) = (4 : Int32) then
      (0 : Int32)
    else
      if (p1 &&& x27) = x27 then
        if (p1 &&& (16 : Int32)) = 0 then
          if st.2.2.2.2.1 = 0 then
            (0 : Int32)
          else
            (1 : Int32)
        else
          if st.2.2.2.2.1 = 0 then
            (1 : Int32)
          else
            if p2 = 0 then
              (0 : Int32)
            else
              if ((st.2.2.1 (0 : Int32).toNatClampNeg) &&& (262144 : Int32)) = 0 then
                (0 : Int32)
              else
                (1 : Int32)
      else
        (0 : Int32)
  else
    if p2 = (1 : Int32) then
      let x15 : Int32 := (65 : Int32) ||| (2 : Int32)
      if (p1 &&& (6 : Int32)) = (4 : Int32) then
        (0 : Int32)
      else
        if (p1 &&& x15) = x15 then
          if (p1 &&& (16 : Int32)) = 0 then
            if st.2.2.2.2.1 = 0 then
              (0 : Int32)
            else
              (1 : Int32)
          else
            if st.2.2.2.2.1 = 0 then
              (1 : Int32)
            else
              if p2 = 0 then
                (0 : Int32)
              else
                if ((st.2.2.1 (0 : Int32).toNatClampNeg) &&& (262144 : Int32)) = 0 then
                  (0 : Int32)
                else
                  (1 : Int32)
        else
          (0 : Int32)
    else
      let x3 : Int32 := (65 : Int32) ||| (132 : Int32)
      if (p1 &&& (6 : Int32)) = (4 : Int32) then
        (0 : Int32)
      else
        if (p1 &&& x3) = x3 then
          if (p1 &&& (16 : Int32)) = 0 then
            if st.2.2.2.2.1 = 0 then
              (0 : Int32)
            else
              (1 : Int32)
          else
            if st.2.2.2.2.1 = 0 then
              (1 : Int32)
            else
              if p2 = 0 then
                (0 : Int32)
              else
                if ((st.2.2.1 (0 : Int32).toNatClampNeg) &&& (262144 : Int32)) = 0 then
                  (0 : Int32)
                else
                  (1 : Int32)
        else
          (0 : Int32)
set_option maxHeartbeats 4000000 in
set_option maxRecDepth 100000 in
theorem ch_permits (l : Launch) (dC : Nat → ClassId) (dI : Nat → Nat → Nat) (cI h0 qme0 qre1 qco2 tN tB : Nat) (sz : Nat) (st : HS) (p1 : Int32) (p2 : Int32)  : Met l yX0_permits (.code yX0_permits cX0_permits 6 (some .boolean) :: gBIG) ({ frames := 0, cells := 0, slots := 0, locals := 0 }) (va_Pc [.ref h0, .int p1, .int p2] (gPre dC dI cI h0 qme0 qre1 qco2 tN tB sz st)) (QcRead (h_permits st p1 p2)) 0 0 (fun _ => False) := by
  refine Met.ofW (cc := cX0_permits) (maxL := 6) (ret := (some .boolean)) (by decide) rfl ?_
  intro p e s m args below meth c s₁ B hml hv
  obtain ⟨rfl, hsz, hP, hK, hD0, hZ⟩ := hv
  have hx := B.exec
  have hb := B.bytes
  have hr := B.returns
  have hts : ∀ w ∈ gBIG, w.before _ s = true := fun w h => atoms_spec (ws := (.code yX0_permits cX0_permits 6 (some .boolean) :: gBIG)) B.pre w (List.mem_cons_of_mem _ h)
  have hown : s.vm.findClass "PagedHart" = some m.cls := findClass_of_methodNamed B.named
  have hlocks := B.notSynchronized
  subst hsz
  have hD : va_D (gA h0 qme0 qre1 qco2 s.heap.size) (gW cI h0 qme0 qre1 qco2 st) := gD hD0
  have hS : va_S (gA h0 qme0 qre1 qco2 s.heap.size) s.heap s.heap [] := va_S.rf
  have hP : va_P (dC, dI) vwCl (gW cI h0 qme0 qre1 qco2 st) s.heap := hP
  have hl := lv_entry ([.ref h0, .int p1, .int p2]) (n := 6) (Nat.le_of_ble_eq_true rfl)
  rw [lg_entry_eq]
  generalize (lg_sl ([.ref h0, .int p1, .int p2]) ++ List.replicate (6 - (lg_sl ([.ref h0, .int p1, .int p2])).length) Slot.unset).toArray = ls at hl ⊢
  refine jgo (P := fun H locs => va_P (dC, dI) vwCl (gW cI h0 qme0 qre1 qco2 st) H ∧ va_S (gA h0 qme0 qre1 qco2 s.heap.size) s.heap H locs ∧ H = s.heap ∧ ∀ q ∈ locs, False) ⟨hP, hS, rfl, fun q h => by cases h⟩ (fun H locs hPS => ?_)
  obtain ⟨hP, hS, hHe, hN⟩ := hPS
  have hl : lv_has ls 6 [(0, .ref h0), (1, .int p1), (2, .int p2)] := hl
  refine lv_bipush (v := 65) hx hb dX0_permits_0 (by decide) ?_
  refine lv_istore_n (lv' := [(3, .int 65), (0, .ref h0), (1, .int p1), (2, .int p2)]) hx hb dX0_permits_2 rfl hl (by decide) rfl (fun ls hl => ?_)
  refine lv_iload_n hx hb dX0_permits_3 rfl (lv_at hl 3 rfl) ?_
  refine lv_if_ne (tgt := 15) hx hb dX0_permits_4 (by decide) (fun c1 => ?_) (fun c1 => ?_)
  · refine lv_iload_n hx hb dX0_permits_15 rfl (lv_at hl 3 rfl) ?_
    refine lv_iconst (v := 1) hx hb dX0_permits_16 (by decide) ?_
    refine lv_icmp_ne (tgt := 27) hx hb dX0_permits_17 (by decide) (fun c2 => ?_) (fun c2 => ?_)
    · refine lv_iload_n hx hb dX0_permits_27 rfl (lv_at hl 0 rfl) ?_
      refine lv_sipush (v := 132) hx hb dX0_permits_28 (by decide) ?_
      refine lv_ior hx hb dX0_permits_31 ?_
      refine lv_topi (fun x3 ex3 => ?_)
      refine lv_istore_n (lv' := [(3, .int x3), (0, .ref h0), (1, .int p1), (2, .int p2)]) hx hb dX0_permits_32 rfl hl (by decide) rfl (fun ls hl => ?_)
      refine lv_iload_n hx hb dX0_permits_33 rfl (lv_at hl 2 rfl) ?_
      refine lv_bipush (v := 6) hx hb dX0_permits_34 (by decide) ?_
      refine lv_iand hx hb dX0_permits_36 ?_
      refine lv_iconst (v := 4) hx hb dX0_permits_37 (by decide) ?_
      refine lv_icmp_ne (tgt := 45) hx hb dX0_permits_38 (by decide) (fun c4 => ?_) (fun c4 => ?_)
      · refine lv_iconst (v := 0) hx hb dX0_permits_45 (by decide) ?_
        refine lv_istore (lv' := [(4, .int 0), (3, .int x3), (0, .ref h0), (1, .int p1), (2, .int p2)]) hx hb dX0_permits_46 hl (by decide) rfl (fun ls hl => ?_)
        refine lv_iload hx hb dX0_permits_48 (lv_at hl 0 rfl) ?_
        refine lv_if_ne (tgt := 60) hx hb dX0_permits_50 (by decide) (fun c5 => ?_) (fun c5 => ?_)
        · exact (c5 (by decide)).elim
        · refine lv_iload_n hx hb dX0_permits_53 rfl (lv_at hl 3 rfl) ?_
          refine lv_iload_n hx hb dX0_permits_54 rfl (lv_at hl 1 rfl) ?_
          refine lv_iand hx hb dX0_permits_55 ?_
          refine lv_iload_n hx hb dX0_permits_56 rfl (lv_at hl 1 rfl) ?_
          refine lv_icmp_eq (tgt := 62) hx hb dX0_permits_57 (by decide) (fun c6 => ?_) (fun c6 => ?_)
          · refine lv_iload_n hx hb dX0_permits_62 rfl (lv_at hl 3 rfl) ?_
            refine lv_bipush (v := 16) hx hb dX0_permits_63 (by decide) ?_
            refine lv_iand hx hb dX0_permits_65 ?_
            refine lv_if_eq (tgt := 73) hx hb dX0_permits_66 (by decide) (fun c7 => ?_) (fun c7 => ?_)
            · refine lv_iconst (v := 0) hx hb dX0_permits_73 (by decide) ?_
              refine lv_istore (lv' := [(5, .int 0), (4, .int 0), (3, .int x3), (0, .ref h0), (1, .int p1), (2, .int p2)]) hx hb dX0_permits_74 hl (by decide) rfl (fun ls hl => ?_)
              refine lv_aload_n hx hb dX0_permits_76 rfl (lv_at hl 3 rfl) ?_
              refine va_get (D := (dC, dI)) (ci := 0) (v := .int st.2.2.2.2.1) (C := "PagedHart") (T := TX0) (N := 6) hx hb hts mU0 hown hK hP 0 rfl rfl 4 (by decide) (hts _ mF_0_24) (fun _ h9 => h9) rfl dX0_permits_77 ?_
              refine lv_if_ne (tgt := 86) hx hb dX0_permits_80 (by decide) (fun c8 => ?_) (fun c8 => ?_)
              · refine lv_iload hx hb dX0_permits_86 (lv_at hl 0 rfl) ?_
                refine lv_if_eq (tgt := 107) hx hb dX0_permits_88 (by decide) (fun c9 => ?_) (fun c9 => ?_)
                · refine lv_iconst (v := 1) hx hb dX0_permits_107 (by decide) ?_
                  refine lv_goto (tgt := 112) hx hb dX0_permits_108 (by decide) ?_
                  exact W.zret (v := 1) hx hb hr rfl (fun t ht hW => ⟨jq (by subst ex3; exact (((if_neg c1).trans ((if_neg c2).trans ((if_neg c4).trans ((if_pos c6).trans ((if_pos c7).trans ((if_neg c8).trans rfl))))))).symm), ht.trans hHe⟩) (fun q h => (hN q h).elim) dX0_permits_112
                · exact (c9 (by decide)).elim
              · refine lv_iload hx hb dX0_permits_83 (lv_at hl 0 rfl) ?_
                exact W.zret (v := 0) hx hb hr rfl (fun t ht hW => ⟨jq (by subst ex3; exact (((if_neg c1).trans ((if_neg c2).trans ((if_neg c4).trans ((if_pos c6).trans ((if_pos c7).trans ((if_pos c8).trans rfl))))))).symm), ht.trans hHe⟩) (fun q h => (hN q h).elim) dX0_permits_85
            · refine lv_iconst (v := 1) hx hb dX0_permits_69 (by decide) ?_
              refine lv_goto (tgt := 74) hx hb dX0_permits_70 (by decide) ?_
              refine lv_istore (lv' := [(5, .int 1), (4, .int 0), (3, .int x3), (0, .ref h0), (1, .int p1), (2, .int p2)]) hx hb dX0_permits_74 hl (by decide) rfl (fun ls hl => ?_)
              refine lv_aload_n hx hb dX0_permits_76 rfl (lv_at hl 3 rfl) ?_
              refine va_get (D := (dC, dI)) (ci := 0) (v := .int st.2.2.2.2.1) (C := "PagedHart") (T := TX0) (N := 6) hx hb hts mU0 hown hK hP 0 rfl rfl 4 (by decide) (hts _ mF_0_24) (fun _ h9 => h9) rfl dX0_permits_77 ?_
              refine lv_if_ne (tgt := 86) hx hb dX0_permits_80 (by decide) (fun c10 => ?_) (fun c10 => ?_)
              · refine lv_iload hx hb dX0_permits_86 (lv_at hl 0 rfl) ?_
                refine lv_if_eq (tgt := 107) hx hb dX0_permits_88 (by decide) (fun c11 => ?_) (fun c11 => ?_)
                · exact absurd c11 (by decide)
                · refine lv_iload_n hx hb dX0_permits_91 rfl (lv_at hl 5 rfl) ?_
                  refine lv_if_eq (tgt := 111) hx hb dX0_permits_92 (by decide) (fun c12 => ?_) (fun c12 => ?_)
                  · refine lv_iconst (v := 0) hx hb dX0_permits_111 (by decide) ?_
                    exact W.zret (v := 0) hx hb hr rfl (fun t ht hW => ⟨jq (by subst ex3; exact (((if_neg c1).trans ((if_neg c2).trans ((if_neg c4).trans ((if_pos c6).trans ((if_neg c7).trans ((if_neg c10).trans ((if_pos c12).trans rfl)))))))).symm), ht.trans hHe⟩) (fun q h => (hN q h).elim) dX0_permits_112
                  · refine lv_aload_n hx hb dX0_permits_95 rfl (lv_at hl 3 rfl) ?_
                    refine va_get (D := (dC, dI)) (ci := 0) (v := .ref qco2) (C := "PagedHart") (T := TX0) (N := 6) hx hb hts mU0 hown hK hP 0 rfl rfl 2 (by decide) (hts _ mF_0_17) (fun _ h9 => h9) rfl dX0_permits_96 ?_
                    refine lv_iconst (v := 0) hx hb dX0_permits_99 (by decide) ?_
                    refine va_iald (D := (dC, dI)) hx hb hK hP 3 0 rfl rfl (jin (by decide)) dX0_permits_100 ?_
                    refine lv_ldc (v := 262144) hx hb hown (hts _ mC_0_72) dX0_permits_101 ?_
                    refine lv_iand hx hb dX0_permits_103 ?_
                    refine lv_if_eq (tgt := 111) hx hb dX0_permits_104 (by decide) (fun c13 => ?_) (fun c13 => ?_)
                    · refine lv_iconst (v := 0) hx hb dX0_permits_111 (by decide) ?_
                      exact W.zret (v := 0) hx hb hr rfl (fun t ht hW => ⟨jq (by subst ex3; exact (((if_neg c1).trans ((if_neg c2).trans ((if_neg c4).trans ((if_pos c6).trans ((if_neg c7).trans ((if_neg c10).trans ((if_neg c12).trans ((if_pos c13).trans rfl))))))))).symm), ht.trans hHe⟩) (fun q h => (hN q h).elim) dX0_permits_112
                    · refine lv_iconst (v := 1) hx hb dX0_permits_107 (by decide) ?_
                      refine lv_goto (tgt := 112) hx hb dX0_permits_108 (by decide) ?_
                      exact W.zret (v := 1) hx hb hr rfl (fun t ht hW => ⟨jq (by subst ex3; exact (((if_neg c1).trans ((if_neg c2).trans ((if_neg c4).trans ((if_pos c6).trans ((if_neg c7).trans ((if_neg c10).trans ((if_neg c12).trans ((if_neg c13).trans rfl))))))))).symm), ht.trans hHe⟩) (fun q h => (hN q h).elim) dX0_permits_112
              · refine lv_iload hx hb dX0_permits_83 (lv_at hl 0 rfl) ?_
                exact W.zret (v := 1) hx hb hr rfl (fun t ht hW => ⟨jq (by subst ex3; exact (((if_neg c1).trans ((if_neg c2).trans ((if_neg c4).trans ((if_pos c6).trans ((if_neg c7).trans ((if_pos c10).trans rfl))))))).symm), ht.trans hHe⟩) (fun q h => (hN q h).elim) dX0_permits_85
          · refine lv_iconst (v := 0) hx hb dX0_permits_60 (by decide) ?_
            exact W.zret (v := 0) hx hb hr rfl (fun t ht hW => ⟨jq (by subst ex3; exact (((if_neg c1).trans ((if_neg c2).trans ((if_neg c4).trans ((if_neg c6).trans rfl))))).symm), ht.trans hHe⟩) (fun q h => (hN q h).elim) dX0_permits_61
      · refine lv_iconst (v := 1) hx hb dX0_permits_41 (by decide) ?_
        refine lv_goto (tgt := 46) hx hb dX0_permits_42 (by decide) ?_
        refine lv_istore (lv' := [(4, .int 1), (3, .int x3), (0, .ref h0), (1, .int p1), (2, .int p2)]) hx hb dX0_permits_46 hl (by decide) rfl (fun ls hl => ?_)
        refine lv_iload hx hb dX0_permits_48 (lv_at hl 0 rfl) ?_
        refine lv_if_ne (tgt := 60) hx hb dX0_permits_50 (by decide) (fun c14 => ?_) (fun c14 => ?_)
        · refine lv_iconst (v := 0) hx hb dX0_permits_60 (by decide) ?_
          exact W.zret (v := 0) hx hb hr rfl (fun t ht hW => ⟨jq (by subst ex3; exact (((if_neg c1).trans ((if_neg c2).trans ((if_pos c4).trans rfl)))).symm), ht.trans hHe⟩) (fun q h => (hN q h).elim) dX0_permits_61
        · exact absurd c14 (by decide)
    · refine lv_iload_n hx hb dX0_permits_20 rfl (lv_at hl 0 rfl) ?_
      refine lv_iconst (v := 2) hx hb dX0_permits_21 (by decide) ?_
      refine lv_ior hx hb dX0_permits_22 ?_
      refine lv_topi (fun x15 ex15 => ?_)
      refine lv_istore_n (lv' := [(3, .int x15), (0, .ref h0), (1, .int p1), (2, .int p2)]) hx hb dX0_permits_23 rfl hl (by decide) rfl (fun ls hl => ?_)
      refine lv_goto (tgt := 33) hx hb dX0_permits_24 (by decide) ?_
      refine lv_iload_n hx hb dX0_permits_33 rfl (lv_at hl 2 rfl) ?_
      refine lv_bipush (v := 6) hx hb dX0_permits_34 (by decide) ?_
      refine lv_iand hx hb dX0_permits_36 ?_
      refine lv_iconst (v := 4) hx hb dX0_permits_37 (by decide) ?_
      refine lv_icmp_ne (tgt := 45) hx hb dX0_permits_38 (by decide) (fun c16 => ?_) (fun c16 => ?_)
      · refine lv_iconst (v := 0) hx hb dX0_permits_45 (by decide) ?_
        refine lv_istore (lv' := [(4, .int 0), (3, .int x15), (0, .ref h0), (1, .int p1), (2, .int p2)]) hx hb dX0_permits_46 hl (by decide) rfl (fun ls hl => ?_)
        refine lv_iload hx hb dX0_permits_48 (lv_at hl 0 rfl) ?_
        refine lv_if_ne (tgt := 60) hx hb dX0_permits_50 (by decide) (fun c17 => ?_) (fun c17 => ?_)
        · exact (c17 (by decide)).elim
        · refine lv_iload_n hx hb dX0_permits_53 rfl (lv_at hl 3 rfl) ?_
          refine lv_iload_n hx hb dX0_permits_54 rfl (lv_at hl 1 rfl) ?_
          refine lv_iand hx hb dX0_permits_55 ?_
          refine lv_iload_n hx hb dX0_permits_56 rfl (lv_at hl 1 rfl) ?_
          refine lv_icmp_eq (tgt := 62) hx hb dX0_permits_57 (by decide) (fun c18 => ?_) (fun c18 => ?_)
          · refine lv_iload_n hx hb dX0_permits_62 rfl (lv_at hl 3 rfl) ?_
            refine lv_bipush (v := 16) hx hb dX0_permits_63 (by decide) ?_
            refine lv_iand hx hb dX0_permits_65 ?_
            refine lv_if_eq (tgt := 73) hx hb dX0_permits_66 (by decide) (fun c19 => ?_) (fun c19 => ?_)
            · refine lv_iconst (v := 0) hx hb dX0_permits_73 (by decide) ?_
              refine lv_istore (lv' := [(5, .int 0), (4, .int 0), (3, .int x15), (0, .ref h0), (1, .int p1), (2, .int p2)]) hx hb dX0_permits_74 hl (by decide) rfl (fun ls hl => ?_)
              refine lv_aload_n hx hb dX0_permits_76 rfl (lv_at hl 3 rfl) ?_
              refine va_get (D := (dC, dI)) (ci := 0) (v := .int st.2.2.2.2.1) (C := "PagedHart") (T := TX0) (N := 6) hx hb hts mU0 hown hK hP 0 rfl rfl 4 (by decide) (hts _ mF_0_24) (fun _ h9 => h9) rfl dX0_permits_77 ?_
              refine lv_if_ne (tgt := 86) hx hb dX0_permits_80 (by decide) (fun c20 => ?_) (fun c20 => ?_)
              · refine lv_iload hx hb dX0_permits_86 (lv_at hl 0 rfl) ?_
                refine lv_if_eq (tgt := 107) hx hb dX0_permits_88 (by decide) (fun c21 => ?_) (fun c21 => ?_)
                · refine lv_iconst (v := 1) hx hb dX0_permits_107 (by decide) ?_
                  refine lv_goto (tgt := 112) hx hb dX0_permits_108 (by decide) ?_
                  exact W.zret (v := 1) hx hb hr rfl (fun t ht hW => ⟨jq (by subst ex15; exact (((if_neg c1).trans ((if_pos c2).trans ((if_neg c16).trans ((if_pos c18).trans ((if_pos c19).trans ((if_neg c20).trans rfl))))))).symm), ht.trans hHe⟩) (fun q h => (hN q h).elim) dX0_permits_112
                · exact (c21 (by decide)).elim
              · refine lv_iload hx hb dX0_permits_83 (lv_at hl 0 rfl) ?_
                exact W.zret (v := 0) hx hb hr rfl (fun t ht hW => ⟨jq (by subst ex15; exact (((if_neg c1).trans ((if_pos c2).trans ((if_neg c16).trans ((if_pos c18).trans ((if_pos c19).trans ((if_pos c20).trans rfl))))))).symm), ht.trans hHe⟩) (fun q h => (hN q h).elim) dX0_permits_85
            · refine lv_iconst (v := 1) hx hb dX0_permits_69 (by decide) ?_
              refine lv_goto (tgt := 74) hx hb dX0_permits_70 (by decide) ?_
              refine lv_istore (lv' := [(5, .int 1), (4, .int 0), (3, .int x15), (0, .ref h0), (1, .int p1), (2, .int p2)]) hx hb dX0_permits_74 hl (by decide) rfl (fun ls hl => ?_)
              refine lv_aload_n hx hb dX0_permits_76 rfl (lv_at hl 3 rfl) ?_
              refine va_get (D := (dC, dI)) (ci := 0) (v := .int st.2.2.2.2.1) (C := "PagedHart") (T := TX0) (N := 6) hx hb hts mU0 hown hK hP 0 rfl rfl 4 (by decide) (hts _ mF_0_24) (fun _ h9 => h9) rfl dX0_permits_77 ?_
              refine lv_if_ne (tgt := 86) hx hb dX0_permits_80 (by decide) (fun c22 => ?_) (fun c22 => ?_)
              · refine lv_iload hx hb dX0_permits_86 (lv_at hl 0 rfl) ?_
                refine lv_if_eq (tgt := 107) hx hb dX0_permits_88 (by decide) (fun c23 => ?_) (fun c23 => ?_)
                · exact absurd c23 (by decide)
                · refine lv_iload_n hx hb dX0_permits_91 rfl (lv_at hl 5 rfl) ?_
                  refine lv_if_eq (tgt := 111) hx hb dX0_permits_92 (by decide) (fun c24 => ?_) (fun c24 => ?_)
                  · refine lv_iconst (v := 0) hx hb dX0_permits_111 (by decide) ?_
                    exact W.zret (v := 0) hx hb hr rfl (fun t ht hW => ⟨jq (by subst ex15; exact (((if_neg c1).trans ((if_pos c2).trans ((if_neg c16).trans ((if_pos c18).trans ((if_neg c19).trans ((if_neg c22).trans ((if_pos c24).trans rfl)))))))).symm), ht.trans hHe⟩) (fun q h => (hN q h).elim) dX0_permits_112
                  · refine lv_aload_n hx hb dX0_permits_95 rfl (lv_at hl 3 rfl) ?_
                    refine va_get (D := (dC, dI)) (ci := 0) (v := .ref qco2) (C := "PagedHart") (T := TX0) (N := 6) hx hb hts mU0 hown hK hP 0 rfl rfl 2 (by decide) (hts _ mF_0_17) (fun _ h9 => h9) rfl dX0_permits_96 ?_
                    refine lv_iconst (v := 0) hx hb dX0_permits_99 (by decide) ?_
                    refine va_iald (D := (dC, dI)) hx hb hK hP 3 0 rfl rfl (jin (by decide)) dX0_permits_100 ?_
                    refine lv_ldc (v := 262144) hx hb hown (hts _ mC_0_72) dX0_permits_101 ?_
                    refine lv_iand hx hb dX0_permits_103 ?_
                    refine lv_if_eq (tgt := 111) hx hb dX0_permits_104 (by decide) (fun c25 => ?_) (fun c25 => ?_)
                    · refine lv_iconst (v := 0) hx hb dX0_permits_111 (by decide) ?_
                      exact W.zret (v := 0) hx hb hr rfl (fun t ht hW => ⟨jq (by subst ex15; exact (((if_neg c1).trans ((if_pos c2).trans ((if_neg c16).trans ((if_pos c18).trans ((if_neg c19).trans ((if_neg c22).trans ((if_neg c24).trans ((if_pos c25).trans rfl))))))))).symm), ht.trans hHe⟩) (fun q h => (hN q h).elim) dX0_permits_112
                    · refine lv_iconst (v := 1) hx hb dX0_permits_107 (by decide) ?_
                      refine lv_goto (tgt := 112) hx hb dX0_permits_108 (by decide) ?_
                      exact W.zret (v := 1) hx hb hr rfl (fun t ht hW => ⟨jq (by subst ex15; exact (((if_neg c1).trans ((if_pos c2).trans ((if_neg c16).trans ((if_pos c18).trans ((if_neg c19).trans ((if_neg c22).trans ((if_neg c24).trans ((if_neg c25).trans rfl))))))))).symm), ht.trans hHe⟩) (fun q h => (hN q h).elim) dX0_permits_112
              · refine lv_iload hx hb dX0_permits_83 (lv_at hl 0 rfl) ?_
                exact W.zret (v := 1) hx hb hr rfl (fun t ht hW => ⟨jq (by subst ex15; exact (((if_neg c1).trans ((if_pos c2).trans ((if_neg c16).trans ((if_pos c18).trans ((if_neg c19).trans ((if_pos c22).trans rfl))))))).symm), ht.trans hHe⟩) (fun q h => (hN q h).elim) dX0_permits_85
          · refine lv_iconst (v := 0) hx hb dX0_permits_60 (by decide) ?_
            exact W.zret (v := 0) hx hb hr rfl (fun t ht hW => ⟨jq (by subst ex15; exact (((if_neg c1).trans ((if_pos c2).trans ((if_neg c16).trans ((if_neg c18).trans rfl))))).symm), ht.trans hHe⟩) (fun q h => (hN q h).elim) dX0_permits_61
      · refine lv_iconst (v := 1) hx hb dX0_permits_41 (by decide) ?_
        refine lv_goto (tgt := 46) hx hb dX0_permits_42 (by decide) ?_
        refine lv_istore (lv' := [(4, .int 1), (3, .int x15), (0, .ref h0), (1, .int p1), (2, .int p2)]) hx hb dX0_permits_46 hl (by decide) rfl (fun ls hl => ?_)
        refine lv_iload hx hb dX0_permits_48 (lv_at hl 0 rfl) ?_
        refine lv_if_ne (tgt := 60) hx hb dX0_permits_50 (by decide) (fun c26 => ?_) (fun c26 => ?_)
        · refine lv_iconst (v := 0) hx hb dX0_permits_60 (by decide) ?_
          exact W.zret (v := 0) hx hb hr rfl (fun t ht hW => ⟨jq (by subst ex15; exact (((if_neg c1).trans ((if_pos c2).trans ((if_pos c16).trans rfl)))).symm), ht.trans hHe⟩) (fun q h => (hN q h).elim) dX0_permits_61
        · exact absurd c26 (by decide)
  · refine lv_iload_n hx hb dX0_permits_7 rfl (lv_at hl 0 rfl) ?_
    refine lv_bipush (v := 8) hx hb dX0_permits_8 (by decide) ?_
    refine lv_ior hx hb dX0_permits_10 ?_
    refine lv_topi (fun x27 ex27 => ?_)
    refine lv_istore_n (lv' := [(3, .int x27), (0, .ref h0), (1, .int p1), (2, .int p2)]) hx hb dX0_permits_11 rfl hl (by decide) rfl (fun ls hl => ?_)
    refine lv_goto (tgt := 33) hx hb dX0_permits_12 (by decide) ?_
    refine lv_iload_n hx hb dX0_permits_33 rfl (lv_at hl 2 rfl) ?_
    refine lv_bipush (v := 6) hx hb dX0_permits_34 (by decide) ?_
    refine lv_iand hx hb dX0_permits_36 ?_
    refine lv_iconst (v := 4) hx hb dX0_permits_37 (by decide) ?_
    refine lv_icmp_ne (tgt := 45) hx hb dX0_permits_38 (by decide) (fun c28 => ?_) (fun c28 => ?_)
    · refine lv_iconst (v := 0) hx hb dX0_permits_45 (by decide) ?_
      refine lv_istore (lv' := [(4, .int 0), (3, .int x27), (0, .ref h0), (1, .int p1), (2, .int p2)]) hx hb dX0_permits_46 hl (by decide) rfl (fun ls hl => ?_)
      refine lv_iload hx hb dX0_permits_48 (lv_at hl 0 rfl) ?_
      refine lv_if_ne (tgt := 60) hx hb dX0_permits_50 (by decide) (fun c29 => ?_) (fun c29 => ?_)
      · exact (c29 (by decide)).elim
      · refine lv_iload_n hx hb dX0_permits_53 rfl (lv_at hl 3 rfl) ?_
        refine lv_iload_n hx hb dX0_permits_54 rfl (lv_at hl 1 rfl) ?_
        refine lv_iand hx hb dX0_permits_55 ?_
        refine lv_iload_n hx hb dX0_permits_56 rfl (lv_at hl 1 rfl) ?_
        refine lv_icmp_eq (tgt := 62) hx hb dX0_permits_57 (by decide) (fun c30 => ?_) (fun c30 => ?_)
        · refine lv_iload_n hx hb dX0_permits_62 rfl (lv_at hl 3 rfl) ?_
          refine lv_bipush (v := 16) hx hb dX0_permits_63 (by decide) ?_
          refine lv_iand hx hb dX0_permits_65 ?_
          refine lv_if_eq (tgt := 73) hx hb dX0_permits_66 (by decide) (fun c31 => ?_) (fun c31 => ?_)
          · refine lv_iconst (v := 0) hx hb dX0_permits_73 (by decide) ?_
            refine lv_istore (lv' := [(5, .int 0), (4, .int 0), (3, .int x27), (0, .ref h0), (1, .int p1), (2, .int p2)]) hx hb dX0_permits_74 hl (by decide) rfl (fun ls hl => ?_)
            refine lv_aload_n hx hb dX0_permits_76 rfl (lv_at hl 3 rfl) ?_
            refine va_get (D := (dC, dI)) (ci := 0) (v := .int st.2.2.2.2.1) (C := "PagedHart") (T := TX0) (N := 6) hx hb hts mU0 hown hK hP 0 rfl rfl 4 (by decide) (hts _ mF_0_24) (fun _ h9 => h9) rfl dX0_permits_77 ?_
            refine lv_if_ne (tgt := 86) hx hb dX0_permits_80 (by decide) (fun c32 => ?_) (fun c32 => ?_)
            · refine lv_iload hx hb dX0_permits_86 (lv_at hl 0 rfl) ?_
              refine lv_if_eq (tgt := 107) hx hb dX0_permits_88 (by decide) (fun c33 => ?_) (fun c33 => ?_)
              · refine lv_iconst (v := 1) hx hb dX0_permits_107 (by decide) ?_
                refine lv_goto (tgt := 112) hx hb dX0_permits_108 (by decide) ?_
                exact W.zret (v := 1) hx hb hr rfl (fun t ht hW => ⟨jq (by subst ex27; exact (((if_pos c1).trans ((if_neg c28).trans ((if_pos c30).trans ((if_pos c31).trans ((if_neg c32).trans rfl)))))).symm), ht.trans hHe⟩) (fun q h => (hN q h).elim) dX0_permits_112
              · exact (c33 (by decide)).elim
            · refine lv_iload hx hb dX0_permits_83 (lv_at hl 0 rfl) ?_
              exact W.zret (v := 0) hx hb hr rfl (fun t ht hW => ⟨jq (by subst ex27; exact (((if_pos c1).trans ((if_neg c28).trans ((if_pos c30).trans ((if_pos c31).trans ((if_pos c32).trans rfl)))))).symm), ht.trans hHe⟩) (fun q h => (hN q h).elim) dX0_permits_85
          · refine lv_iconst (v := 1) hx hb dX0_permits_69 (by decide) ?_
            refine lv_goto (tgt := 74) hx hb dX0_permits_70 (by decide) ?_
            refine lv_istore (lv' := [(5, .int 1), (4, .int 0), (3, .int x27), (0, .ref h0), (1, .int p1), (2, .int p2)]) hx hb dX0_permits_74 hl (by decide) rfl (fun ls hl => ?_)
            refine lv_aload_n hx hb dX0_permits_76 rfl (lv_at hl 3 rfl) ?_
            refine va_get (D := (dC, dI)) (ci := 0) (v := .int st.2.2.2.2.1) (C := "PagedHart") (T := TX0) (N := 6) hx hb hts mU0 hown hK hP 0 rfl rfl 4 (by decide) (hts _ mF_0_24) (fun _ h9 => h9) rfl dX0_permits_77 ?_
            refine lv_if_ne (tgt := 86) hx hb dX0_permits_80 (by decide) (fun c34 => ?_) (fun c34 => ?_)
            · refine lv_iload hx hb dX0_permits_86 (lv_at hl 0 rfl) ?_
              refine lv_if_eq (tgt := 107) hx hb dX0_permits_88 (by decide) (fun c35 => ?_) (fun c35 => ?_)
              · exact absurd c35 (by decide)
              · refine lv_iload_n hx hb dX0_permits_91 rfl (lv_at hl 5 rfl) ?_
                refine lv_if_eq (tgt := 111) hx hb dX0_permits_92 (by decide) (fun c36 => ?_) (fun c36 => ?_)
                · refine lv_iconst (v := 0) hx hb dX0_permits_111 (by decide) ?_
                  exact W.zret (v := 0) hx hb hr rfl (fun t ht hW => ⟨jq (by subst ex27; exact (((if_pos c1).trans ((if_neg c28).trans ((if_pos c30).trans ((if_neg c31).trans ((if_neg c34).trans ((if_pos c36).trans rfl))))))).symm), ht.trans hHe⟩) (fun q h => (hN q h).elim) dX0_permits_112
                · refine lv_aload_n hx hb dX0_permits_95 rfl (lv_at hl 3 rfl) ?_
                  refine va_get (D := (dC, dI)) (ci := 0) (v := .ref qco2) (C := "PagedHart") (T := TX0) (N := 6) hx hb hts mU0 hown hK hP 0 rfl rfl 2 (by decide) (hts _ mF_0_17) (fun _ h9 => h9) rfl dX0_permits_96 ?_
                  refine lv_iconst (v := 0) hx hb dX0_permits_99 (by decide) ?_
                  refine va_iald (D := (dC, dI)) hx hb hK hP 3 0 rfl rfl (jin (by decide)) dX0_permits_100 ?_
                  refine lv_ldc (v := 262144) hx hb hown (hts _ mC_0_72) dX0_permits_101 ?_
                  refine lv_iand hx hb dX0_permits_103 ?_
                  refine lv_if_eq (tgt := 111) hx hb dX0_permits_104 (by decide) (fun c37 => ?_) (fun c37 => ?_)
                  · refine lv_iconst (v := 0) hx hb dX0_permits_111 (by decide) ?_
                    exact W.zret (v := 0) hx hb hr rfl (fun t ht hW => ⟨jq (by subst ex27; exact (((if_pos c1).trans ((if_neg c28).trans ((if_pos c30).trans ((if_neg c31).trans ((if_neg c34).trans ((if_neg c36).trans ((if_pos c37).trans rfl)))))))).symm), ht.trans hHe⟩) (fun q h => (hN q h).elim) dX0_permits_112
                  · refine lv_iconst (v := 1) hx hb dX0_permits_107 (by decide) ?_
                    refine lv_goto (tgt := 112) hx hb dX0_permits_108 (by decide) ?_
                    exact W.zret (v := 1) hx hb hr rfl (fun t ht hW => ⟨jq (by subst ex27; exact (((if_pos c1).trans ((if_neg c28).trans ((if_pos c30).trans ((if_neg c31).trans ((if_neg c34).trans ((if_neg c36).trans ((if_neg c37).trans rfl)))))))).symm), ht.trans hHe⟩) (fun q h => (hN q h).elim) dX0_permits_112
            · refine lv_iload hx hb dX0_permits_83 (lv_at hl 0 rfl) ?_
              exact W.zret (v := 1) hx hb hr rfl (fun t ht hW => ⟨jq (by subst ex27; exact (((if_pos c1).trans ((if_neg c28).trans ((if_pos c30).trans ((if_neg c31).trans ((if_pos c34).trans rfl)))))).symm), ht.trans hHe⟩) (fun q h => (hN q h).elim) dX0_permits_85
        · refine lv_iconst (v := 0) hx hb dX0_permits_60 (by decide) ?_
          exact W.zret (v := 0) hx hb hr rfl (fun t ht hW => ⟨jq (by subst ex27; exact (((if_pos c1).trans ((if_neg c28).trans ((if_neg c30).trans rfl)))).symm), ht.trans hHe⟩) (fun q h => (hN q h).elim) dX0_permits_61
    · refine lv_iconst (v := 1) hx hb dX0_permits_41 (by decide) ?_
      refine lv_goto (tgt := 46) hx hb dX0_permits_42 (by decide) ?_
      refine lv_istore (lv' := [(4, .int 1), (3, .int x27), (0, .ref h0), (1, .int p1), (2, .int p2)]) hx hb dX0_permits_46 hl (by decide) rfl (fun ls hl => ?_)
      refine lv_iload hx hb dX0_permits_48 (lv_at hl 0 rfl) ?_
      refine lv_if_ne (tgt := 60) hx hb dX0_permits_50 (by decide) (fun c38 => ?_) (fun c38 => ?_)
      · refine lv_iconst (v := 0) hx hb dX0_permits_60 (by decide) ?_
        exact W.zret (v := 0) hx hb hr rfl (fun t ht hW => ⟨jq (by subst ex27; exact (((if_pos c1).trans ((if_pos c28).trans rfl))).symm), ht.trans hHe⟩) (fun q h => (hN q h).elim) dX0_permits_61
      · exact absurd c38 (by decide)

def h_locate (st : HS) (p1 : Int32) (p2 : Int32) : Int32 :=
  let x1 : Int32 := st.2.2.1 (6 : Int32).toNatClampNeg
  if 0 ≤ x1 then
    let x3 : Int32 := h_isInMemory p1
    if x3 = 0 then
      let x5 : Int32 := h_accessCause p2
      (((-1) : Int32) - x5)
    else
      p1
  else
    let x6 : Int32 := (x1 <<< ((12 : Int32) &&& 31)) + ((jush p1 (22 : Int32)) <<< ((2 : Int32) &&& 31))
    let x7 : Int32 := h_isInMemory x6
    if x7 = 0 then
      let x39 : Int32 := h_accessCause p2
      (((-1) : Int32) - x39)
    else
      let x9 : Int32 := st.1 (jush x6 (2 : Int32)).toNatClampNeg
      if (x9 &&& (15 : Int32)) = (1 : Int32) then
        let x22 : Int32 := h_frameOf x9
        let x23 : Int32 := x22 + (((jush p1 (12 : Int32)) &&& (1023 : Int32)) <<< ((2 : Int32) &&& 31))
        let x24 : Int32 := h_isInMemory x23
        if x24 = 0 then
          let x38 : Int32 := h_accessCause p2
          (((-1) : Int32) - x38)
        else
          let x26 : Int32 := st.1 (jush x23 (2 : Int32)).toNatClampNeg
          let x27 : Int32 := h_frameOf x26
          if (x27 &&& (4095 : Int32)) = 0 then
            let x30 : Int32 := h_permits st x26 p2
            if x30 = 0 then
              let x37 : Int32 := h_pageCause p2
              (((-1) : Int32) - x37)
            else
              let x32 : Int32 := h_frameOf x26
              let x33 : Int32 := x32 + (p1 &&& (4095 : Int32))
              let x34 : Int32 := h_isInMemory x33
              if x34 = 0 then
                let x36 : Int32 := h_accessCause p2
                (((-1) : Int32) - x36)
              else
                x33
          else
            let x29 : Int32 := h_pageCause p2
            (((-1) : Int32) - x29)
      else
        let x11 : Int32 := h_frameOf x9
        if (x11 &&& (4194303 : Int32)) = 0 then
          let x14 : Int32 := h_permits st x9 p2
          if x14 = 0 then
            let x21 : Int32 := h_pageCause p2
            (((-1) : Int32) - x21)
          else
            let x16 : Int32 := h_frameOf x9
            let x17 : Int32 := x16 + (p1 &&& (4194303 : Int32))
            let x18 : Int32 := h_isInMemory x17
            if x18 = 0 then
              let x20 : Int32 := h_accessCause p2
              (((-1) : Int32) - x20)
            else
              x17
        else
          let x13 : Int32 := h_pageCause p2
          (((-1) : Int32) - x13)
set_option maxHeartbeats 4000000 in
set_option maxRecDepth 100000 in
theorem ch_locate (l : Launch) (dC : Nat → ClassId) (dI : Nat → Nat → Nat) (cI h0 qme0 qre1 qco2 tN tB : Nat) (sz : Nat) (st : HS) (p1 : Int32) (p2 : Int32)  : Met l yX0_locate (.code yX0_locate cX0_locate 8 (some .int) :: gBIG) ({ frames := 1, cells := 0, slots := 0, locals := 25 }) (va_Pc [.ref h0, .int p1, .int p2] (gPre dC dI cI h0 qme0 qre1 qco2 tN tB sz st)) (QcRead (h_locate st p1 p2)) 0 0 (fun _ => False) := by
  refine Met.ofW (cc := cX0_locate) (maxL := 8) (ret := (some .int)) (by decide) rfl ?_
  intro p e s m args below meth c s₁ B hml hv
  obtain ⟨rfl, hsz, hP, hK, hD0, hZ⟩ := hv
  have hx := B.exec
  have hb := B.bytes
  have hr := B.returns
  have hts : ∀ w ∈ gBIG, w.before _ s = true := fun w h => atoms_spec (ws := (.code yX0_locate cX0_locate 8 (some .int) :: gBIG)) B.pre w (List.mem_cons_of_mem _ h)
  have hown : s.vm.findClass "PagedHart" = some m.cls := findClass_of_methodNamed B.named
  have hlocks := B.notSynchronized
  subst hsz
  have hD : va_D (gA h0 qme0 qre1 qco2 s.heap.size) (gW cI h0 qme0 qre1 qco2 st) := gD hD0
  have hS : va_S (gA h0 qme0 qre1 qco2 s.heap.size) s.heap s.heap [] := va_S.rf
  have hP : va_P (dC, dI) vwCl (gW cI h0 qme0 qre1 qco2 st) s.heap := hP
  have hl := lv_entry ([.ref h0, .int p1, .int p2]) (n := 8) (Nat.le_of_ble_eq_true rfl)
  rw [lg_entry_eq]
  generalize (lg_sl ([.ref h0, .int p1, .int p2]) ++ List.replicate (8 - (lg_sl ([.ref h0, .int p1, .int p2])).length) Slot.unset).toArray = ls at hl ⊢
  refine jgo (P := fun H locs => va_P (dC, dI) vwCl (gW cI h0 qme0 qre1 qco2 st) H ∧ va_S (gA h0 qme0 qre1 qco2 s.heap.size) s.heap H locs ∧ H = s.heap ∧ ∀ q ∈ locs, False) ⟨hP, hS, rfl, fun q h => by cases h⟩ (fun H locs hPS => ?_)
  obtain ⟨hP, hS, hHe, hN⟩ := hPS
  have hl : lv_has ls 8 [(0, .ref h0), (1, .int p1), (2, .int p2)] := hl
  refine lv_iload_n hx hb dX0_locate_0 rfl (lv_at hl 1 rfl) ?_
  refine lv_istore_n (lv' := [(3, .int p1), (0, .ref h0), (1, .int p1), (2, .int p2)]) hx hb dX0_locate_1 rfl hl (by decide) rfl (fun ls hl => ?_)
  refine lv_aload_n hx hb dX0_locate_2 rfl (lv_at hl 1 rfl) ?_
  refine va_get (D := (dC, dI)) (ci := 0) (v := .ref qco2) (C := "PagedHart") (T := TX0) (N := 6) hx hb hts mU0 hown hK hP 0 rfl rfl 2 (by decide) (hts _ mF_0_17) (fun _ h9 => h9) rfl dX0_locate_3 ?_
  refine lv_bipush (v := 6) hx hb dX0_locate_6 (by decide) ?_
  refine va_iald (D := (dC, dI)) hx hb hK hP 3 0 rfl rfl (jin (by decide)) dX0_locate_8 ?_
  refine lv_topi (fun x1 ex1 => ?_)
  refine lv_istore (lv' := [(4, .int x1), (3, .int p1), (0, .ref h0), (1, .int p1), (2, .int p2)]) hx hb dX0_locate_9 hl (by decide) rfl (fun ls hl => ?_)
  refine lv_iload hx hb dX0_locate_11 (lv_at hl 0 rfl) ?_
  refine lv_if_ge (tgt := 157) hx hb dX0_locate_13 (by decide) (fun c2 => ?_) (fun c2 => ?_)
  · refine lv_iload_n hx hb dX0_locate_157 rfl (lv_at hl 1 rfl) ?_
    refine W.callR (W.runS (As := [.int p1]) (rest := []) ⟨hx, hb, hml, hown, hts⟩ (ch_isInMemory l p1) (cwS 1 hts (gS mL_0_73 mS_0_isInMemory mN_0 mB_0_isInMemory) rfl rfl rfl (by decide +kernel) ⟨Nat.le_of_ble_eq_true rfl, Nat.le_of_ble_eq_true rfl⟩) ⟨jblind, fun _ _ _ => ⟨rfl, trivial⟩⟩ rfl rfl hl.1 rfl (lv_room (Nat.le_of_ble_eq_true rfl)) dX0_locate_158 ⟨Nat.zero_le _, Nat.zero_le _⟩) ?_
    refine W.eq (g2 := F0 m 161 ls (.int (h_isInMemory p1) :: [])) rfl ?_
    refine lv_topi (fun x3 ex3 => ?_)
    refine lv_if_eq (tgt := 168) hx hb dX0_locate_161 (by decide) (fun c4 => ?_) (fun c4 => ?_)
    · refine lv_iconst (v := (-1)) hx hb dX0_locate_168 (by decide) ?_
      refine lv_iload_n hx hb dX0_locate_169 rfl (lv_at hl 4 rfl) ?_
      refine W.callR (W.runS (As := [.int p2]) (rest := [.int (-1)]) ⟨hx, hb, hml, hown, hts⟩ (ch_accessCause l p2) (cwS 1 hts (gS mL_0_79 mS_0_accessCause mN_0 mB_0_accessCause) rfl rfl rfl (by decide +kernel) ⟨Nat.le_of_ble_eq_true rfl, Nat.le_of_ble_eq_true rfl⟩) ⟨jblind, fun _ _ _ => ⟨rfl, trivial⟩⟩ rfl rfl hl.1 rfl (lv_room (Nat.le_of_ble_eq_true rfl)) dX0_locate_170 ⟨Nat.zero_le _, Nat.zero_le _⟩) ?_
      refine W.eq (g2 := F0 m 173 ls (.int (h_accessCause p2) :: [.int (-1)])) rfl ?_
      refine lv_topi (fun x5 ex5 => ?_)
      refine lv_isub hx hb dX0_locate_173 ?_
      exact W.iret (v := ((-1) : Int32) - x5) hx hb hr (fun t ht hW => ⟨jq (by subst ex5 ex3 ex1; exact (((if_pos c2).trans ((if_pos c4).trans rfl))).symm), ht.trans hHe⟩) (fun q h => (hN q h).elim) dX0_locate_174
    · refine lv_iload_n hx hb dX0_locate_164 rfl (lv_at hl 1 rfl) ?_
      refine lv_goto (tgt := 174) hx hb dX0_locate_165 (by decide) ?_
      exact W.iret (v := p1) hx hb hr (fun t ht hW => ⟨jq (by subst ex3 ex1; exact (((if_pos c2).trans ((if_neg c4).trans rfl))).symm), ht.trans hHe⟩) (fun q h => (hN q h).elim) dX0_locate_174
  · refine lv_iload hx hb dX0_locate_16 (lv_at hl 0 rfl) ?_
    refine lv_bipush (v := 12) hx hb dX0_locate_18 (by decide) ?_
    refine lv_ishl hx hb dX0_locate_20 ?_
    refine lv_iload_n hx hb dX0_locate_21 rfl (lv_at hl 3 rfl) ?_
    refine lv_bipush (v := 22) hx hb dX0_locate_22 (by decide) ?_
    refine lv_iushr (v := jush p1 (22 : Int32)) hx hb dX0_locate_24 rfl ?_
    refine lv_iconst (v := 2) hx hb dX0_locate_25 (by decide) ?_
    refine lv_ishl hx hb dX0_locate_26 ?_
    refine lv_iadd hx hb dX0_locate_27 ?_
    refine lv_topi (fun x6 ex6 => ?_)
    refine lv_istore (lv' := [(5, .int x6), (4, .int x1), (3, .int p1), (0, .ref h0), (1, .int p1), (2, .int p2)]) hx hb dX0_locate_28 hl (by decide) rfl (fun ls hl => ?_)
    refine lv_iload hx hb dX0_locate_30 (lv_at hl 0 rfl) ?_
    refine W.callR (W.runS (As := [.int x6]) (rest := []) ⟨hx, hb, hml, hown, hts⟩ (ch_isInMemory l x6) (cwS 1 hts (gS mL_0_73 mS_0_isInMemory mN_0 mB_0_isInMemory) rfl rfl rfl (by decide +kernel) ⟨Nat.le_of_ble_eq_true rfl, Nat.le_of_ble_eq_true rfl⟩) ⟨jblind, fun _ _ _ => ⟨rfl, trivial⟩⟩ rfl rfl hl.1 rfl (lv_room (Nat.le_of_ble_eq_true rfl)) dX0_locate_32 ⟨Nat.zero_le _, Nat.zero_le _⟩) ?_
    refine W.eq (g2 := F0 m 35 ls (.int (h_isInMemory x6) :: [])) rfl ?_
    refine lv_topi (fun x7 ex7 => ?_)
    refine lv_if_ne (tgt := 45) hx hb dX0_locate_35 (by decide) (fun c8 => ?_) (fun c8 => ?_)
    · refine lv_aload_n hx hb dX0_locate_45 rfl (lv_at hl 3 rfl) ?_
      refine va_get (D := (dC, dI)) (ci := 0) (v := .ref qme0) (C := "PagedHart") (T := TX0) (N := 6) hx hb hts mU0 hown hK hP 0 rfl rfl 0 (by decide) (hts _ mF_0_10) (fun _ h9 => h9) rfl dX0_locate_46 ?_
      refine lv_iload hx hb dX0_locate_49 (lv_at hl 0 rfl) ?_
      refine lv_iconst (v := 2) hx hb dX0_locate_51 (by decide) ?_
      refine lv_iushr (v := jush x6 (2 : Int32)) hx hb dX0_locate_52 rfl ?_
      refine va_iald (D := (dC, dI)) hx hb hK hP 1 0 rfl rfl (h_in1 (by rw [← ex7]; exact c8)) dX0_locate_53 ?_
      refine lv_topi (fun x9 ex9 => ?_)
      refine lv_istore (lv' := [(6, .int x9), (5, .int x6), (4, .int x1), (3, .int p1), (0, .ref h0), (1, .int p1), (2, .int p2)]) hx hb dX0_locate_54 hl (by decide) rfl (fun ls hl => ?_)
      refine lv_ldc (v := 4194303) hx hb hown (hts _ mC_0_82) dX0_locate_56 ?_
      refine lv_istore (lv' := [(7, .int 4194303), (6, .int x9), (5, .int x6), (4, .int x1), (3, .int p1), (0, .ref h0), (1, .int p1), (2, .int p2)]) hx hb dX0_locate_58 hl (by decide) rfl (fun ls hl => ?_)
      refine lv_iload hx hb dX0_locate_60 (lv_at hl 1 rfl) ?_
      refine lv_bipush (v := 15) hx hb dX0_locate_62 (by decide) ?_
      refine lv_iand hx hb dX0_locate_64 ?_
      refine lv_iconst (v := 1) hx hb dX0_locate_65 (by decide) ?_
      refine lv_icmp_ne (tgt := 118) hx hb dX0_locate_66 (by decide) (fun c10 => ?_) (fun c10 => ?_)
      · refine lv_iload hx hb dX0_locate_118 (lv_at hl 1 rfl) ?_
        refine W.callR (W.runS (As := [.int x9]) (rest := []) ⟨hx, hb, hml, hown, hts⟩ (ch_frameOf l x9) (cwS 1 hts (gS mL_0_83 mS_0_frameOf mN_0 mB_0_frameOf) rfl rfl rfl (by decide +kernel) ⟨Nat.le_of_ble_eq_true rfl, Nat.le_of_ble_eq_true rfl⟩) ⟨jblind, fun _ _ _ => ⟨rfl, trivial⟩⟩ rfl rfl hl.1 rfl (lv_room (Nat.le_of_ble_eq_true rfl)) dX0_locate_120 ⟨Nat.zero_le _, Nat.zero_le _⟩) ?_
        refine W.eq (g2 := F0 m 123 ls (.int (h_frameOf x9) :: [])) rfl ?_
        refine lv_topi (fun x11 ex11 => ?_)
        refine lv_iload hx hb dX0_locate_123 (lv_at hl 0 rfl) ?_
        refine lv_iand hx hb dX0_locate_125 ?_
        refine lv_if_ne (tgt := 139) hx hb dX0_locate_126 (by decide) (fun c12 => ?_) (fun c12 => ?_)
        · refine lv_iconst (v := (-1)) hx hb dX0_locate_139 (by decide) ?_
          refine lv_iload_n hx hb dX0_locate_140 rfl (lv_at hl 7 rfl) ?_
          refine W.callR (W.runS (As := [.int p2]) (rest := [.int (-1)]) ⟨hx, hb, hml, hown, hts⟩ (ch_pageCause l p2) (cwS 1 hts (gS mL_0_90 mS_0_pageCause mN_0 mB_0_pageCause) rfl rfl rfl (by decide +kernel) ⟨Nat.le_of_ble_eq_true rfl, Nat.le_of_ble_eq_true rfl⟩) ⟨jblind, fun _ _ _ => ⟨rfl, trivial⟩⟩ rfl rfl hl.1 rfl (lv_room (Nat.le_of_ble_eq_true rfl)) dX0_locate_141 ⟨Nat.zero_le _, Nat.zero_le _⟩) ?_
          refine W.eq (g2 := F0 m 144 ls (.int (h_pageCause p2) :: [.int (-1)])) rfl ?_
          refine lv_topi (fun x13 ex13 => ?_)
          refine lv_isub hx hb dX0_locate_144 ?_
          exact W.iret (v := ((-1) : Int32) - x13) hx hb hr (fun t ht hW => ⟨jq (by subst ex13 ex11 ex9 ex7 ex6 ex1; exact (((if_neg c2).trans ((if_neg c8).trans ((if_neg c10).trans ((if_neg c12).trans rfl))))).symm), ht.trans hHe⟩) (fun q h => (hN q h).elim) dX0_locate_145
        · refine lv_aload_n hx hb dX0_locate_129 rfl (lv_at hl 5 rfl) ?_
          refine lv_iload hx hb dX0_locate_130 (lv_at hl 1 rfl) ?_
          refine lv_iload_n hx hb dX0_locate_132 rfl (lv_at hl 7 rfl) ?_
          refine gR (As := [.int x9, .int p2]) (rest := []) (f := h_permits st x9 p2) ⟨hx, hb, hml, hown, hts⟩ (ch_permits l dC dI cI h0 qme0 qre1 qco2 tN tB H.size st x9 p2) (cwV 2 hts (gV mL_0_86 mI_0_permits mX_0_permits mN_0 mB_0_permits) rfl rfl rfl (by decide +kernel) ⟨Nat.le_of_ble_eq_true rfl, Nat.le_of_ble_eq_true rfl⟩) hK hP hD hS hZ rfl hl.1 rfl (Nat.le_of_ble_eq_true rfl) dX0_locate_133 ⟨Nat.zero_le _, Nat.zero_le _⟩ ?_
          refine lv_topi (fun x14 ex14 => ?_)
          refine lv_if_ne (tgt := 146) hx hb dX0_locate_136 (by decide) (fun c15 => ?_) (fun c15 => ?_)
          · refine lv_iload hx hb dX0_locate_146 (lv_at hl 1 rfl) ?_
            refine W.callR (W.runS (As := [.int x9]) (rest := []) ⟨hx, hb, hml, hown, hts⟩ (ch_frameOf l x9) (cwS 1 hts (gS mL_0_83 mS_0_frameOf mN_0 mB_0_frameOf) rfl rfl rfl (by decide +kernel) ⟨Nat.le_of_ble_eq_true rfl, Nat.le_of_ble_eq_true rfl⟩) ⟨jblind, fun _ _ _ => ⟨rfl, trivial⟩⟩ rfl rfl hl.1 rfl (lv_room (Nat.le_of_ble_eq_true rfl)) dX0_locate_148 ⟨Nat.zero_le _, Nat.zero_le _⟩) ?_
            refine W.eq (g2 := F0 m 151 ls (.int (h_frameOf x9) :: [])) rfl ?_
            refine lv_topi (fun x16 ex16 => ?_)
            refine lv_iload_n hx hb dX0_locate_151 rfl (lv_at hl 6 rfl) ?_
            refine lv_iload hx hb dX0_locate_152 (lv_at hl 0 rfl) ?_
            refine lv_iand hx hb dX0_locate_154 ?_
            refine lv_iadd hx hb dX0_locate_155 ?_
            refine lv_topi (fun x17 ex17 => ?_)
            refine lv_istore_n (lv' := [(3, .int x17), (7, .int 4194303), (6, .int x9), (5, .int x6), (4, .int x1), (0, .ref h0), (1, .int p1), (2, .int p2)]) hx hb dX0_locate_156 rfl hl (by decide) rfl (fun ls hl => ?_)
            refine lv_iload_n hx hb dX0_locate_157 rfl (lv_at hl 0 rfl) ?_
            refine W.callR (W.runS (As := [.int x17]) (rest := []) ⟨hx, hb, hml, hown, hts⟩ (ch_isInMemory l x17) (cwS 1 hts (gS mL_0_73 mS_0_isInMemory mN_0 mB_0_isInMemory) rfl rfl rfl (by decide +kernel) ⟨Nat.le_of_ble_eq_true rfl, Nat.le_of_ble_eq_true rfl⟩) ⟨jblind, fun _ _ _ => ⟨rfl, trivial⟩⟩ rfl rfl hl.1 rfl (lv_room (Nat.le_of_ble_eq_true rfl)) dX0_locate_158 ⟨Nat.zero_le _, Nat.zero_le _⟩) ?_
            refine W.eq (g2 := F0 m 161 ls (.int (h_isInMemory x17) :: [])) rfl ?_
            refine lv_topi (fun x18 ex18 => ?_)
            refine lv_if_eq (tgt := 168) hx hb dX0_locate_161 (by decide) (fun c19 => ?_) (fun c19 => ?_)
            · refine lv_iconst (v := (-1)) hx hb dX0_locate_168 (by decide) ?_
              refine lv_iload_n hx hb dX0_locate_169 rfl (lv_at hl 7 rfl) ?_
              refine W.callR (W.runS (As := [.int p2]) (rest := [.int (-1)]) ⟨hx, hb, hml, hown, hts⟩ (ch_accessCause l p2) (cwS 1 hts (gS mL_0_79 mS_0_accessCause mN_0 mB_0_accessCause) rfl rfl rfl (by decide +kernel) ⟨Nat.le_of_ble_eq_true rfl, Nat.le_of_ble_eq_true rfl⟩) ⟨jblind, fun _ _ _ => ⟨rfl, trivial⟩⟩ rfl rfl hl.1 rfl (lv_room (Nat.le_of_ble_eq_true rfl)) dX0_locate_170 ⟨Nat.zero_le _, Nat.zero_le _⟩) ?_
              refine W.eq (g2 := F0 m 173 ls (.int (h_accessCause p2) :: [.int (-1)])) rfl ?_
              refine lv_topi (fun x20 ex20 => ?_)
              refine lv_isub hx hb dX0_locate_173 ?_
              exact W.iret (v := ((-1) : Int32) - x20) hx hb hr (fun t ht hW => ⟨jq (by subst ex20 ex18 ex17 ex16 ex14 ex11 ex9 ex7 ex6 ex1; exact (((if_neg c2).trans ((if_neg c8).trans ((if_neg c10).trans ((if_pos c12).trans ((if_neg c15).trans ((if_pos c19).trans rfl))))))).symm), ht.trans hHe⟩) (fun q h => (hN q h).elim) dX0_locate_174
            · refine lv_iload_n hx hb dX0_locate_164 rfl (lv_at hl 0 rfl) ?_
              refine lv_goto (tgt := 174) hx hb dX0_locate_165 (by decide) ?_
              exact W.iret (v := x17) hx hb hr (fun t ht hW => ⟨jq (by subst ex18 ex17 ex16 ex14 ex11 ex9 ex7 ex6 ex1; exact (((if_neg c2).trans ((if_neg c8).trans ((if_neg c10).trans ((if_pos c12).trans ((if_neg c15).trans ((if_neg c19).trans rfl))))))).symm), ht.trans hHe⟩) (fun q h => (hN q h).elim) dX0_locate_174
          · refine lv_iconst (v := (-1)) hx hb dX0_locate_139 (by decide) ?_
            refine lv_iload_n hx hb dX0_locate_140 rfl (lv_at hl 7 rfl) ?_
            refine W.callR (W.runS (As := [.int p2]) (rest := [.int (-1)]) ⟨hx, hb, hml, hown, hts⟩ (ch_pageCause l p2) (cwS 1 hts (gS mL_0_90 mS_0_pageCause mN_0 mB_0_pageCause) rfl rfl rfl (by decide +kernel) ⟨Nat.le_of_ble_eq_true rfl, Nat.le_of_ble_eq_true rfl⟩) ⟨jblind, fun _ _ _ => ⟨rfl, trivial⟩⟩ rfl rfl hl.1 rfl (lv_room (Nat.le_of_ble_eq_true rfl)) dX0_locate_141 ⟨Nat.zero_le _, Nat.zero_le _⟩) ?_
            refine W.eq (g2 := F0 m 144 ls (.int (h_pageCause p2) :: [.int (-1)])) rfl ?_
            refine lv_topi (fun x21 ex21 => ?_)
            refine lv_isub hx hb dX0_locate_144 ?_
            exact W.iret (v := ((-1) : Int32) - x21) hx hb hr (fun t ht hW => ⟨jq (by subst ex21 ex14 ex11 ex9 ex7 ex6 ex1; exact (((if_neg c2).trans ((if_neg c8).trans ((if_neg c10).trans ((if_pos c12).trans ((if_pos c15).trans rfl)))))).symm), ht.trans hHe⟩) (fun q h => (hN q h).elim) dX0_locate_145
      · refine lv_iload hx hb dX0_locate_69 (lv_at hl 1 rfl) ?_
        refine W.callR (W.runS (As := [.int x9]) (rest := []) ⟨hx, hb, hml, hown, hts⟩ (ch_frameOf l x9) (cwS 1 hts (gS mL_0_83 mS_0_frameOf mN_0 mB_0_frameOf) rfl rfl rfl (by decide +kernel) ⟨Nat.le_of_ble_eq_true rfl, Nat.le_of_ble_eq_true rfl⟩) ⟨jblind, fun _ _ _ => ⟨rfl, trivial⟩⟩ rfl rfl hl.1 rfl (lv_room (Nat.le_of_ble_eq_true rfl)) dX0_locate_71 ⟨Nat.zero_le _, Nat.zero_le _⟩) ?_
        refine W.eq (g2 := F0 m 74 ls (.int (h_frameOf x9) :: [])) rfl ?_
        refine lv_topi (fun x22 ex22 => ?_)
        refine lv_iload_n hx hb dX0_locate_74 rfl (lv_at hl 6 rfl) ?_
        refine lv_bipush (v := 12) hx hb dX0_locate_75 (by decide) ?_
        refine lv_iushr (v := jush p1 (12 : Int32)) hx hb dX0_locate_77 rfl ?_
        refine lv_sipush (v := 1023) hx hb dX0_locate_78 (by decide) ?_
        refine lv_iand hx hb dX0_locate_81 ?_
        refine lv_iconst (v := 2) hx hb dX0_locate_82 (by decide) ?_
        refine lv_ishl hx hb dX0_locate_83 ?_
        refine lv_iadd hx hb dX0_locate_84 ?_
        refine lv_topi (fun x23 ex23 => ?_)
        refine lv_istore (lv' := [(5, .int x23), (7, .int 4194303), (6, .int x9), (4, .int x1), (3, .int p1), (0, .ref h0), (1, .int p1), (2, .int p2)]) hx hb dX0_locate_85 hl (by decide) rfl (fun ls hl => ?_)
        refine lv_iload hx hb dX0_locate_87 (lv_at hl 0 rfl) ?_
        refine W.callR (W.runS (As := [.int x23]) (rest := []) ⟨hx, hb, hml, hown, hts⟩ (ch_isInMemory l x23) (cwS 1 hts (gS mL_0_73 mS_0_isInMemory mN_0 mB_0_isInMemory) rfl rfl rfl (by decide +kernel) ⟨Nat.le_of_ble_eq_true rfl, Nat.le_of_ble_eq_true rfl⟩) ⟨jblind, fun _ _ _ => ⟨rfl, trivial⟩⟩ rfl rfl hl.1 rfl (lv_room (Nat.le_of_ble_eq_true rfl)) dX0_locate_89 ⟨Nat.zero_le _, Nat.zero_le _⟩) ?_
        refine W.eq (g2 := F0 m 92 ls (.int (h_isInMemory x23) :: [])) rfl ?_
        refine lv_topi (fun x24 ex24 => ?_)
        refine lv_if_ne (tgt := 102) hx hb dX0_locate_92 (by decide) (fun c25 => ?_) (fun c25 => ?_)
        · refine lv_aload_n hx hb dX0_locate_102 rfl (lv_at hl 5 rfl) ?_
          refine va_get (D := (dC, dI)) (ci := 0) (v := .ref qme0) (C := "PagedHart") (T := TX0) (N := 6) hx hb hts mU0 hown hK hP 0 rfl rfl 0 (by decide) (hts _ mF_0_10) (fun _ h9 => h9) rfl dX0_locate_103 ?_
          refine lv_iload hx hb dX0_locate_106 (lv_at hl 0 rfl) ?_
          refine lv_iconst (v := 2) hx hb dX0_locate_108 (by decide) ?_
          refine lv_iushr (v := jush x23 (2 : Int32)) hx hb dX0_locate_109 rfl ?_
          refine va_iald (D := (dC, dI)) hx hb hK hP 1 0 rfl rfl (h_in1 (by rw [← ex24]; exact c25)) dX0_locate_110 ?_
          refine lv_topi (fun x26 ex26 => ?_)
          refine lv_istore (lv' := [(6, .int x26), (5, .int x23), (7, .int 4194303), (4, .int x1), (3, .int p1), (0, .ref h0), (1, .int p1), (2, .int p2)]) hx hb dX0_locate_111 hl (by decide) rfl (fun ls hl => ?_)
          refine lv_sipush (v := 4095) hx hb dX0_locate_113 (by decide) ?_
          refine lv_istore (lv' := [(7, .int 4095), (6, .int x26), (5, .int x23), (4, .int x1), (3, .int p1), (0, .ref h0), (1, .int p1), (2, .int p2)]) hx hb dX0_locate_116 hl (by decide) rfl (fun ls hl => ?_)
          refine lv_iload hx hb dX0_locate_118 (lv_at hl 1 rfl) ?_
          refine W.callR (W.runS (As := [.int x26]) (rest := []) ⟨hx, hb, hml, hown, hts⟩ (ch_frameOf l x26) (cwS 1 hts (gS mL_0_83 mS_0_frameOf mN_0 mB_0_frameOf) rfl rfl rfl (by decide +kernel) ⟨Nat.le_of_ble_eq_true rfl, Nat.le_of_ble_eq_true rfl⟩) ⟨jblind, fun _ _ _ => ⟨rfl, trivial⟩⟩ rfl rfl hl.1 rfl (lv_room (Nat.le_of_ble_eq_true rfl)) dX0_locate_120 ⟨Nat.zero_le _, Nat.zero_le _⟩) ?_
          refine W.eq (g2 := F0 m 123 ls (.int (h_frameOf x26) :: [])) rfl ?_
          refine lv_topi (fun x27 ex27 => ?_)
          refine lv_iload hx hb dX0_locate_123 (lv_at hl 0 rfl) ?_
          refine lv_iand hx hb dX0_locate_125 ?_
          refine lv_if_ne (tgt := 139) hx hb dX0_locate_126 (by decide) (fun c28 => ?_) (fun c28 => ?_)
          · refine lv_iconst (v := (-1)) hx hb dX0_locate_139 (by decide) ?_
            refine lv_iload_n hx hb dX0_locate_140 rfl (lv_at hl 7 rfl) ?_
            refine W.callR (W.runS (As := [.int p2]) (rest := [.int (-1)]) ⟨hx, hb, hml, hown, hts⟩ (ch_pageCause l p2) (cwS 1 hts (gS mL_0_90 mS_0_pageCause mN_0 mB_0_pageCause) rfl rfl rfl (by decide +kernel) ⟨Nat.le_of_ble_eq_true rfl, Nat.le_of_ble_eq_true rfl⟩) ⟨jblind, fun _ _ _ => ⟨rfl, trivial⟩⟩ rfl rfl hl.1 rfl (lv_room (Nat.le_of_ble_eq_true rfl)) dX0_locate_141 ⟨Nat.zero_le _, Nat.zero_le _⟩) ?_
            refine W.eq (g2 := F0 m 144 ls (.int (h_pageCause p2) :: [.int (-1)])) rfl ?_
            refine lv_topi (fun x29 ex29 => ?_)
            refine lv_isub hx hb dX0_locate_144 ?_
            exact W.iret (v := ((-1) : Int32) - x29) hx hb hr (fun t ht hW => ⟨jq (by subst ex29 ex27 ex26 ex24 ex23 ex22 ex9 ex7 ex6 ex1; exact (((if_neg c2).trans ((if_neg c8).trans ((if_pos c10).trans ((if_neg c25).trans ((if_neg c28).trans rfl)))))).symm), ht.trans hHe⟩) (fun q h => (hN q h).elim) dX0_locate_145
          · refine lv_aload_n hx hb dX0_locate_129 rfl (lv_at hl 5 rfl) ?_
            refine lv_iload hx hb dX0_locate_130 (lv_at hl 1 rfl) ?_
            refine lv_iload_n hx hb dX0_locate_132 rfl (lv_at hl 7 rfl) ?_
            refine gR (As := [.int x26, .int p2]) (rest := []) (f := h_permits st x26 p2) ⟨hx, hb, hml, hown, hts⟩ (ch_permits l dC dI cI h0 qme0 qre1 qco2 tN tB H.size st x26 p2) (cwV 2 hts (gV mL_0_86 mI_0_permits mX_0_permits mN_0 mB_0_permits) rfl rfl rfl (by decide +kernel) ⟨Nat.le_of_ble_eq_true rfl, Nat.le_of_ble_eq_true rfl⟩) hK hP hD hS hZ rfl hl.1 rfl (Nat.le_of_ble_eq_true rfl) dX0_locate_133 ⟨Nat.zero_le _, Nat.zero_le _⟩ ?_
            refine lv_topi (fun x30 ex30 => ?_)
            refine lv_if_ne (tgt := 146) hx hb dX0_locate_136 (by decide) (fun c31 => ?_) (fun c31 => ?_)
            · refine lv_iload hx hb dX0_locate_146 (lv_at hl 1 rfl) ?_
              refine W.callR (W.runS (As := [.int x26]) (rest := []) ⟨hx, hb, hml, hown, hts⟩ (ch_frameOf l x26) (cwS 1 hts (gS mL_0_83 mS_0_frameOf mN_0 mB_0_frameOf) rfl rfl rfl (by decide +kernel) ⟨Nat.le_of_ble_eq_true rfl, Nat.le_of_ble_eq_true rfl⟩) ⟨jblind, fun _ _ _ => ⟨rfl, trivial⟩⟩ rfl rfl hl.1 rfl (lv_room (Nat.le_of_ble_eq_true rfl)) dX0_locate_148 ⟨Nat.zero_le _, Nat.zero_le _⟩) ?_
              refine W.eq (g2 := F0 m 151 ls (.int (h_frameOf x26) :: [])) rfl ?_
              refine lv_topi (fun x32 ex32 => ?_)
              refine lv_iload_n hx hb dX0_locate_151 rfl (lv_at hl 6 rfl) ?_
              refine lv_iload hx hb dX0_locate_152 (lv_at hl 0 rfl) ?_
              refine lv_iand hx hb dX0_locate_154 ?_
              refine lv_iadd hx hb dX0_locate_155 ?_
              refine lv_topi (fun x33 ex33 => ?_)
              refine lv_istore_n (lv' := [(3, .int x33), (7, .int 4095), (6, .int x26), (5, .int x23), (4, .int x1), (0, .ref h0), (1, .int p1), (2, .int p2)]) hx hb dX0_locate_156 rfl hl (by decide) rfl (fun ls hl => ?_)
              refine lv_iload_n hx hb dX0_locate_157 rfl (lv_at hl 0 rfl) ?_
              refine W.callR (W.runS (As := [.int x33]) (rest := []) ⟨hx, hb, hml, hown, hts⟩ (ch_isInMemory l x33) (cwS 1 hts (gS mL_0_73 mS_0_isInMemory mN_0 mB_0_isInMemory) rfl rfl rfl (by decide +kernel) ⟨Nat.le_of_ble_eq_true rfl, Nat.le_of_ble_eq_true rfl⟩) ⟨jblind, fun _ _ _ => ⟨rfl, trivial⟩⟩ rfl rfl hl.1 rfl (lv_room (Nat.le_of_ble_eq_true rfl)) dX0_locate_158 ⟨Nat.zero_le _, Nat.zero_le _⟩) ?_
              refine W.eq (g2 := F0 m 161 ls (.int (h_isInMemory x33) :: [])) rfl ?_
              refine lv_topi (fun x34 ex34 => ?_)
              refine lv_if_eq (tgt := 168) hx hb dX0_locate_161 (by decide) (fun c35 => ?_) (fun c35 => ?_)
              · refine lv_iconst (v := (-1)) hx hb dX0_locate_168 (by decide) ?_
                refine lv_iload_n hx hb dX0_locate_169 rfl (lv_at hl 7 rfl) ?_
                refine W.callR (W.runS (As := [.int p2]) (rest := [.int (-1)]) ⟨hx, hb, hml, hown, hts⟩ (ch_accessCause l p2) (cwS 1 hts (gS mL_0_79 mS_0_accessCause mN_0 mB_0_accessCause) rfl rfl rfl (by decide +kernel) ⟨Nat.le_of_ble_eq_true rfl, Nat.le_of_ble_eq_true rfl⟩) ⟨jblind, fun _ _ _ => ⟨rfl, trivial⟩⟩ rfl rfl hl.1 rfl (lv_room (Nat.le_of_ble_eq_true rfl)) dX0_locate_170 ⟨Nat.zero_le _, Nat.zero_le _⟩) ?_
                refine W.eq (g2 := F0 m 173 ls (.int (h_accessCause p2) :: [.int (-1)])) rfl ?_
                refine lv_topi (fun x36 ex36 => ?_)
                refine lv_isub hx hb dX0_locate_173 ?_
                exact W.iret (v := ((-1) : Int32) - x36) hx hb hr (fun t ht hW => ⟨jq (by subst ex36 ex34 ex33 ex32 ex30 ex27 ex26 ex24 ex23 ex22 ex9 ex7 ex6 ex1; exact (((if_neg c2).trans ((if_neg c8).trans ((if_pos c10).trans ((if_neg c25).trans ((if_pos c28).trans ((if_neg c31).trans ((if_pos c35).trans rfl)))))))).symm), ht.trans hHe⟩) (fun q h => (hN q h).elim) dX0_locate_174
              · refine lv_iload_n hx hb dX0_locate_164 rfl (lv_at hl 0 rfl) ?_
                refine lv_goto (tgt := 174) hx hb dX0_locate_165 (by decide) ?_
                exact W.iret (v := x33) hx hb hr (fun t ht hW => ⟨jq (by subst ex34 ex33 ex32 ex30 ex27 ex26 ex24 ex23 ex22 ex9 ex7 ex6 ex1; exact (((if_neg c2).trans ((if_neg c8).trans ((if_pos c10).trans ((if_neg c25).trans ((if_pos c28).trans ((if_neg c31).trans ((if_neg c35).trans rfl)))))))).symm), ht.trans hHe⟩) (fun q h => (hN q h).elim) dX0_locate_174
            · refine lv_iconst (v := (-1)) hx hb dX0_locate_139 (by decide) ?_
              refine lv_iload_n hx hb dX0_locate_140 rfl (lv_at hl 7 rfl) ?_
              refine W.callR (W.runS (As := [.int p2]) (rest := [.int (-1)]) ⟨hx, hb, hml, hown, hts⟩ (ch_pageCause l p2) (cwS 1 hts (gS mL_0_90 mS_0_pageCause mN_0 mB_0_pageCause) rfl rfl rfl (by decide +kernel) ⟨Nat.le_of_ble_eq_true rfl, Nat.le_of_ble_eq_true rfl⟩) ⟨jblind, fun _ _ _ => ⟨rfl, trivial⟩⟩ rfl rfl hl.1 rfl (lv_room (Nat.le_of_ble_eq_true rfl)) dX0_locate_141 ⟨Nat.zero_le _, Nat.zero_le _⟩) ?_
              refine W.eq (g2 := F0 m 144 ls (.int (h_pageCause p2) :: [.int (-1)])) rfl ?_
              refine lv_topi (fun x37 ex37 => ?_)
              refine lv_isub hx hb dX0_locate_144 ?_
              exact W.iret (v := ((-1) : Int32) - x37) hx hb hr (fun t ht hW => ⟨jq (by subst ex37 ex30 ex27 ex26 ex24 ex23 ex22 ex9 ex7 ex6 ex1; exact (((if_neg c2).trans ((if_neg c8).trans ((if_pos c10).trans ((if_neg c25).trans ((if_pos c28).trans ((if_pos c31).trans rfl))))))).symm), ht.trans hHe⟩) (fun q h => (hN q h).elim) dX0_locate_145
        · refine lv_iconst (v := (-1)) hx hb dX0_locate_95 (by decide) ?_
          refine lv_iload_n hx hb dX0_locate_96 rfl (lv_at hl 7 rfl) ?_
          refine W.callR (W.runS (As := [.int p2]) (rest := [.int (-1)]) ⟨hx, hb, hml, hown, hts⟩ (ch_accessCause l p2) (cwS 1 hts (gS mL_0_79 mS_0_accessCause mN_0 mB_0_accessCause) rfl rfl rfl (by decide +kernel) ⟨Nat.le_of_ble_eq_true rfl, Nat.le_of_ble_eq_true rfl⟩) ⟨jblind, fun _ _ _ => ⟨rfl, trivial⟩⟩ rfl rfl hl.1 rfl (lv_room (Nat.le_of_ble_eq_true rfl)) dX0_locate_97 ⟨Nat.zero_le _, Nat.zero_le _⟩) ?_
          refine W.eq (g2 := F0 m 100 ls (.int (h_accessCause p2) :: [.int (-1)])) rfl ?_
          refine lv_topi (fun x38 ex38 => ?_)
          refine lv_isub hx hb dX0_locate_100 ?_
          exact W.iret (v := ((-1) : Int32) - x38) hx hb hr (fun t ht hW => ⟨jq (by subst ex38 ex24 ex23 ex22 ex9 ex7 ex6 ex1; exact (((if_neg c2).trans ((if_neg c8).trans ((if_pos c10).trans ((if_pos c25).trans rfl))))).symm), ht.trans hHe⟩) (fun q h => (hN q h).elim) dX0_locate_101
    · refine lv_iconst (v := (-1)) hx hb dX0_locate_38 (by decide) ?_
      refine lv_iload_n hx hb dX0_locate_39 rfl (lv_at hl 5 rfl) ?_
      refine W.callR (W.runS (As := [.int p2]) (rest := [.int (-1)]) ⟨hx, hb, hml, hown, hts⟩ (ch_accessCause l p2) (cwS 1 hts (gS mL_0_79 mS_0_accessCause mN_0 mB_0_accessCause) rfl rfl rfl (by decide +kernel) ⟨Nat.le_of_ble_eq_true rfl, Nat.le_of_ble_eq_true rfl⟩) ⟨jblind, fun _ _ _ => ⟨rfl, trivial⟩⟩ rfl rfl hl.1 rfl (lv_room (Nat.le_of_ble_eq_true rfl)) dX0_locate_40 ⟨Nat.zero_le _, Nat.zero_le _⟩) ?_
      refine W.eq (g2 := F0 m 43 ls (.int (h_accessCause p2) :: [.int (-1)])) rfl ?_
      refine lv_topi (fun x39 ex39 => ?_)
      refine lv_isub hx hb dX0_locate_43 ?_
      exact W.iret (v := ((-1) : Int32) - x39) hx hb hr (fun t ht hW => ⟨jq (by subst ex39 ex7 ex6 ex1; exact (((if_neg c2).trans ((if_pos c8).trans rfl))).symm), ht.trans hHe⟩) (fun q h => (hN q h).elim) dX0_locate_44
theorem h_locmem (st : HS) (a b : Int32) (h : 0 ≤ h_locate st a b) : ¬ h_isInMemory (h_locate st a b) = 0 := by
  revert h
  unfold h_locate
  dsimp only
  (repeat' split) <;> intro h <;> first | with_reducible assumption | with_reducible exact absurd h (h_nA _) | with_reducible exact absurd h (h_nP _)

def h_locateAligned (st : HS) (p1 : Int32) (p2 : Int32) (p3 : Int32) : Int32 :=
  if (p1 &&& (p3 - (1 : Int32))) = 0 then
    let x2 : Int32 := h_locate st p1 p2
    x2
  else
    let x3 : Int32 := h_misalignedCause p2
    (((-1) : Int32) - x3)
set_option maxHeartbeats 4000000 in
set_option maxRecDepth 100000 in
theorem ch_locateAligned (l : Launch) (dC : Nat → ClassId) (dI : Nat → Nat → Nat) (cI h0 qme0 qre1 qco2 tN tB : Nat) (sz : Nat) (st : HS) (p1 : Int32) (p2 : Int32) (p3 : Int32)  : Met l yX0_locateAligned (.code yX0_locateAligned cX0_locateAligned 4 (some .int) :: gBIG) ({ frames := 2, cells := 0, slots := 0, locals := 52 }) (va_Pc [.ref h0, .int p1, .int p2, .int p3] (gPre dC dI cI h0 qme0 qre1 qco2 tN tB sz st)) (QcRead (h_locateAligned st p1 p2 p3)) 0 0 (fun _ => False) := by
  refine Met.ofW (cc := cX0_locateAligned) (maxL := 4) (ret := (some .int)) (by decide) rfl ?_
  intro p e s m args below meth c s₁ B hml hv
  obtain ⟨rfl, hsz, hP, hK, hD0, hZ⟩ := hv
  have hx := B.exec
  have hb := B.bytes
  have hr := B.returns
  have hts : ∀ w ∈ gBIG, w.before _ s = true := fun w h => atoms_spec (ws := (.code yX0_locateAligned cX0_locateAligned 4 (some .int) :: gBIG)) B.pre w (List.mem_cons_of_mem _ h)
  have hown : s.vm.findClass "PagedHart" = some m.cls := findClass_of_methodNamed B.named
  have hlocks := B.notSynchronized
  subst hsz
  have hD : va_D (gA h0 qme0 qre1 qco2 s.heap.size) (gW cI h0 qme0 qre1 qco2 st) := gD hD0
  have hS : va_S (gA h0 qme0 qre1 qco2 s.heap.size) s.heap s.heap [] := va_S.rf
  have hP : va_P (dC, dI) vwCl (gW cI h0 qme0 qre1 qco2 st) s.heap := hP
  have hl := lv_entry ([.ref h0, .int p1, .int p2, .int p3]) (n := 4) (Nat.le_of_ble_eq_true rfl)
  rw [lg_entry_eq]
  generalize (lg_sl ([.ref h0, .int p1, .int p2, .int p3]) ++ List.replicate (4 - (lg_sl ([.ref h0, .int p1, .int p2, .int p3])).length) Slot.unset).toArray = ls at hl ⊢
  refine jgo (P := fun H locs => va_P (dC, dI) vwCl (gW cI h0 qme0 qre1 qco2 st) H ∧ va_S (gA h0 qme0 qre1 qco2 s.heap.size) s.heap H locs ∧ H = s.heap ∧ ∀ q ∈ locs, False) ⟨hP, hS, rfl, fun q h => by cases h⟩ (fun H locs hPS => ?_)
  obtain ⟨hP, hS, hHe, hN⟩ := hPS
  have hl : lv_has ls 4 [(0, .ref h0), (1, .int p1), (2, .int p2), (3, .int p3)] := hl
  refine lv_iload_n hx hb dX0_locateAligned_0 rfl (lv_at hl 1 rfl) ?_
  refine lv_iload_n hx hb dX0_locateAligned_1 rfl (lv_at hl 3 rfl) ?_
  refine lv_iconst (v := 1) hx hb dX0_locateAligned_2 (by decide) ?_
  refine lv_isub hx hb dX0_locateAligned_3 ?_
  refine lv_iand hx hb dX0_locateAligned_4 ?_
  refine lv_if_eq (tgt := 15) hx hb dX0_locateAligned_5 (by decide) (fun c1 => ?_) (fun c1 => ?_)
  · refine lv_aload_n hx hb dX0_locateAligned_15 rfl (lv_at hl 0 rfl) ?_
    refine lv_iload_n hx hb dX0_locateAligned_16 rfl (lv_at hl 1 rfl) ?_
    refine lv_iload_n hx hb dX0_locateAligned_17 rfl (lv_at hl 2 rfl) ?_
    refine gR (As := [.int p1, .int p2]) (rest := []) (f := h_locate st p1 p2) ⟨hx, hb, hml, hown, hts⟩ (ch_locate l dC dI cI h0 qme0 qre1 qco2 tN tB H.size st p1 p2) (cwV 2 hts (gV mL_0_68 mI_0_locate mX_0_locate mN_0 mB_0_locate) rfl rfl rfl (by decide +kernel) ⟨Nat.le_of_ble_eq_true rfl, Nat.le_of_ble_eq_true rfl⟩) hK hP hD hS hZ rfl hl.1 rfl (Nat.le_of_ble_eq_true rfl) dX0_locateAligned_18 ⟨Nat.zero_le _, Nat.zero_le _⟩ ?_
    refine lv_topi (fun x2 ex2 => ?_)
    exact W.iret (v := x2) hx hb hr (fun t ht hW => ⟨jq (by subst ex2; exact (((if_pos c1).trans rfl)).symm), ht.trans hHe⟩) (fun q h => (hN q h).elim) dX0_locateAligned_21
  · refine lv_iconst (v := (-1)) hx hb dX0_locateAligned_8 (by decide) ?_
    refine lv_iload_n hx hb dX0_locateAligned_9 rfl (lv_at hl 2 rfl) ?_
    refine W.callR (W.runS (As := [.int p2]) (rest := [.int (-1)]) ⟨hx, hb, hml, hown, hts⟩ (ch_misalignedCause l p2) (cwS 1 hts (gS mL_0_76 mS_0_misalignedCause mN_0 mB_0_misalignedCause) rfl rfl rfl (by decide +kernel) ⟨Nat.le_of_ble_eq_true rfl, Nat.le_of_ble_eq_true rfl⟩) ⟨jblind, fun _ _ _ => ⟨rfl, trivial⟩⟩ rfl rfl hl.1 rfl (lv_room (Nat.le_of_ble_eq_true rfl)) dX0_locateAligned_10 ⟨Nat.zero_le _, Nat.zero_le _⟩) ?_
    refine W.eq (g2 := F0 m 13 ls (.int (h_misalignedCause p2) :: [.int (-1)])) rfl ?_
    refine lv_topi (fun x3 ex3 => ?_)
    refine lv_isub hx hb dX0_locateAligned_13 ?_
    exact W.iret (v := ((-1) : Int32) - x3) hx hb hr (fun t ht hW => ⟨jq (by subst ex3; exact (((if_neg c1).trans rfl)).symm), ht.trans hHe⟩) (fun q h => (hN q h).elim) dX0_locateAligned_14
theorem h_almem (st : HS) (a b c : Int32) (h : 0 ≤ h_locateAligned st a b c) : ¬ h_isInMemory (h_locateAligned st a b c) = 0 := by
  revert h
  unfold h_locateAligned
  dsimp only
  (repeat' split) <;> intro h <;> first | with_reducible exact h_locmem _ _ _ h | with_reducible exact absurd h (h_nM _)
theorem h_in2 {st : HS} {a b c : Int32} (h : 0 ≤ h_locateAligned st a b c) : vp_in (jush (h_locateAligned st a b c) (2 : Int32)) 65536 := h_in1 (h_almem st a b c h)

def h_aOf (st : HS) (p1 : Int32) : Int32 :=
  (st.2.1 ((jush p1 (15 : Int32)) &&& (31 : Int32)).toNatClampNeg)
set_option maxHeartbeats 4000000 in
set_option maxRecDepth 100000 in
theorem ch_aOf (l : Launch) (dC : Nat → ClassId) (dI : Nat → Nat → Nat) (cI h0 qme0 qre1 qco2 tN tB : Nat) (sz : Nat) (st : HS) (p1 : Int32)  : Met l yX0_aOf (.code yX0_aOf cX0_aOf 2 (some .int) :: gBIG) ({ frames := 0, cells := 0, slots := 0, locals := 0 }) (va_Pc [.ref h0, .int p1] (gPre dC dI cI h0 qme0 qre1 qco2 tN tB sz st)) (QcRead (h_aOf st p1)) 0 0 (fun _ => False) := by
  refine Met.ofW (cc := cX0_aOf) (maxL := 2) (ret := (some .int)) (by decide) rfl ?_
  intro p e s m args below meth c s₁ B hml hv
  obtain ⟨rfl, hsz, hP, hK, hD0, hZ⟩ := hv
  have hx := B.exec
  have hb := B.bytes
  have hr := B.returns
  have hts : ∀ w ∈ gBIG, w.before _ s = true := fun w h => atoms_spec (ws := (.code yX0_aOf cX0_aOf 2 (some .int) :: gBIG)) B.pre w (List.mem_cons_of_mem _ h)
  have hown : s.vm.findClass "PagedHart" = some m.cls := findClass_of_methodNamed B.named
  have hlocks := B.notSynchronized
  subst hsz
  have hD : va_D (gA h0 qme0 qre1 qco2 s.heap.size) (gW cI h0 qme0 qre1 qco2 st) := gD hD0
  have hS : va_S (gA h0 qme0 qre1 qco2 s.heap.size) s.heap s.heap [] := va_S.rf
  have hP : va_P (dC, dI) vwCl (gW cI h0 qme0 qre1 qco2 st) s.heap := hP
  have hl := lv_entry ([.ref h0, .int p1]) (n := 2) (Nat.le_of_ble_eq_true rfl)
  rw [lg_entry_eq]
  generalize (lg_sl ([.ref h0, .int p1]) ++ List.replicate (2 - (lg_sl ([.ref h0, .int p1])).length) Slot.unset).toArray = ls at hl ⊢
  refine jgo (P := fun H locs => va_P (dC, dI) vwCl (gW cI h0 qme0 qre1 qco2 st) H ∧ va_S (gA h0 qme0 qre1 qco2 s.heap.size) s.heap H locs ∧ H = s.heap ∧ ∀ q ∈ locs, False) ⟨hP, hS, rfl, fun q h => by cases h⟩ (fun H locs hPS => ?_)
  obtain ⟨hP, hS, hHe, hN⟩ := hPS
  have hl : lv_has ls 2 [(0, .ref h0), (1, .int p1)] := hl
  refine lv_aload_n hx hb dX0_aOf_0 rfl (lv_at hl 0 rfl) ?_
  refine va_get (D := (dC, dI)) (ci := 0) (v := .ref qre1) (C := "PagedHart") (T := TX0) (N := 6) hx hb hts mU0 hown hK hP 0 rfl rfl 1 (by decide) (hts _ mF_0_14) (fun _ h9 => h9) rfl dX0_aOf_1 ?_
  refine lv_iload_n hx hb dX0_aOf_4 rfl (lv_at hl 1 rfl) ?_
  refine lv_bipush (v := 15) hx hb dX0_aOf_5 (by decide) ?_
  refine lv_iushr (v := jush p1 (15 : Int32)) hx hb dX0_aOf_7 rfl ?_
  refine lv_bipush (v := 31) hx hb dX0_aOf_8 (by decide) ?_
  refine lv_iand hx hb dX0_aOf_10 ?_
  refine va_iald (D := (dC, dI)) hx hb hK hP 2 0 rfl rfl (pk_andIn _ 5 rfl (by decide)) dX0_aOf_11 ?_
  exact W.iret (v := st.2.1 ((jush p1 (15 : Int32)) &&& (31 : Int32)).toNatClampNeg) hx hb hr (fun t ht hW => ⟨jq (by exact (rfl).symm), ht.trans hHe⟩) (fun q h => (hN q h).elim) dX0_aOf_12

def h_bOf (st : HS) (p1 : Int32) : Int32 :=
  (st.2.1 ((jush p1 (20 : Int32)) &&& (31 : Int32)).toNatClampNeg)
set_option maxHeartbeats 4000000 in
set_option maxRecDepth 100000 in
theorem ch_bOf (l : Launch) (dC : Nat → ClassId) (dI : Nat → Nat → Nat) (cI h0 qme0 qre1 qco2 tN tB : Nat) (sz : Nat) (st : HS) (p1 : Int32)  : Met l yX0_bOf (.code yX0_bOf cX0_bOf 2 (some .int) :: gBIG) ({ frames := 0, cells := 0, slots := 0, locals := 0 }) (va_Pc [.ref h0, .int p1] (gPre dC dI cI h0 qme0 qre1 qco2 tN tB sz st)) (QcRead (h_bOf st p1)) 0 0 (fun _ => False) := by
  refine Met.ofW (cc := cX0_bOf) (maxL := 2) (ret := (some .int)) (by decide) rfl ?_
  intro p e s m args below meth c s₁ B hml hv
  obtain ⟨rfl, hsz, hP, hK, hD0, hZ⟩ := hv
  have hx := B.exec
  have hb := B.bytes
  have hr := B.returns
  have hts : ∀ w ∈ gBIG, w.before _ s = true := fun w h => atoms_spec (ws := (.code yX0_bOf cX0_bOf 2 (some .int) :: gBIG)) B.pre w (List.mem_cons_of_mem _ h)
  have hown : s.vm.findClass "PagedHart" = some m.cls := findClass_of_methodNamed B.named
  have hlocks := B.notSynchronized
  subst hsz
  have hD : va_D (gA h0 qme0 qre1 qco2 s.heap.size) (gW cI h0 qme0 qre1 qco2 st) := gD hD0
  have hS : va_S (gA h0 qme0 qre1 qco2 s.heap.size) s.heap s.heap [] := va_S.rf
  have hP : va_P (dC, dI) vwCl (gW cI h0 qme0 qre1 qco2 st) s.heap := hP
  have hl := lv_entry ([.ref h0, .int p1]) (n := 2) (Nat.le_of_ble_eq_true rfl)
  rw [lg_entry_eq]
  generalize (lg_sl ([.ref h0, .int p1]) ++ List.replicate (2 - (lg_sl ([.ref h0, .int p1])).length) Slot.unset).toArray = ls at hl ⊢
  refine jgo (P := fun H locs => va_P (dC, dI) vwCl (gW cI h0 qme0 qre1 qco2 st) H ∧ va_S (gA h0 qme0 qre1 qco2 s.heap.size) s.heap H locs ∧ H = s.heap ∧ ∀ q ∈ locs, False) ⟨hP, hS, rfl, fun q h => by cases h⟩ (fun H locs hPS => ?_)
  obtain ⟨hP, hS, hHe, hN⟩ := hPS
  have hl : lv_has ls 2 [(0, .ref h0), (1, .int p1)] := hl
  refine lv_aload_n hx hb dX0_bOf_0 rfl (lv_at hl 0 rfl) ?_
  refine va_get (D := (dC, dI)) (ci := 0) (v := .ref qre1) (C := "PagedHart") (T := TX0) (N := 6) hx hb hts mU0 hown hK hP 0 rfl rfl 1 (by decide) (hts _ mF_0_14) (fun _ h9 => h9) rfl dX0_bOf_1 ?_
  refine lv_iload_n hx hb dX0_bOf_4 rfl (lv_at hl 1 rfl) ?_
  refine lv_bipush (v := 20) hx hb dX0_bOf_5 (by decide) ?_
  refine lv_iushr (v := jush p1 (20 : Int32)) hx hb dX0_bOf_7 rfl ?_
  refine lv_bipush (v := 31) hx hb dX0_bOf_8 (by decide) ?_
  refine lv_iand hx hb dX0_bOf_10 ?_
  refine va_iald (D := (dC, dI)) hx hb hK hP 2 0 rfl rfl (pk_andIn _ 5 rfl (by decide)) dX0_bOf_11 ?_
  exact W.iret (v := st.2.1 ((jush p1 (20 : Int32)) &&& (31 : Int32)).toNatClampNeg) hx hb hr (fun t ht hW => ⟨jq (by exact (rfl).symm), ht.trans hHe⟩) (fun q h => (hN q h).elim) dX0_bOf_12

def h_called (st : HS)  : Int32 :=
  st.2.2.2.2.2
set_option maxHeartbeats 4000000 in
set_option maxRecDepth 100000 in
theorem ch_called (l : Launch) (dC : Nat → ClassId) (dI : Nat → Nat → Nat) (cI h0 qme0 qre1 qco2 tN tB : Nat) (sz : Nat) (st : HS)  (he : st.2.2.2.2.2 = 0 ∨ st.2.2.2.2.2 = 1)  : Met l yX0_called (.code yX0_called cX0_called 1 (some .boolean) :: gBIG) ({ frames := 0, cells := 0, slots := 0, locals := 0 }) (va_Pc [.ref h0] (gPre dC dI cI h0 qme0 qre1 qco2 tN tB sz st)) (QcRead (h_called st)) 0 0 (fun _ => False) := by
  refine Met.ofW (cc := cX0_called) (maxL := 1) (ret := (some .boolean)) (by decide) rfl ?_
  intro p e s m args below meth c s₁ B hml hv
  obtain ⟨rfl, hsz, hP, hK, hD0, hZ⟩ := hv
  have hx := B.exec
  have hb := B.bytes
  have hr := B.returns
  have hts : ∀ w ∈ gBIG, w.before _ s = true := fun w h => atoms_spec (ws := (.code yX0_called cX0_called 1 (some .boolean) :: gBIG)) B.pre w (List.mem_cons_of_mem _ h)
  have hown : s.vm.findClass "PagedHart" = some m.cls := findClass_of_methodNamed B.named
  have hlocks := B.notSynchronized
  subst hsz
  have hD : va_D (gA h0 qme0 qre1 qco2 s.heap.size) (gW cI h0 qme0 qre1 qco2 st) := gD hD0
  have hS : va_S (gA h0 qme0 qre1 qco2 s.heap.size) s.heap s.heap [] := va_S.rf
  have hP : va_P (dC, dI) vwCl (gW cI h0 qme0 qre1 qco2 st) s.heap := hP
  have hl := lv_entry ([.ref h0]) (n := 1) (Nat.le_of_ble_eq_true rfl)
  rw [lg_entry_eq]
  generalize (lg_sl ([.ref h0]) ++ List.replicate (1 - (lg_sl ([.ref h0])).length) Slot.unset).toArray = ls at hl ⊢
  refine jgo (P := fun H locs => va_P (dC, dI) vwCl (gW cI h0 qme0 qre1 qco2 st) H ∧ va_S (gA h0 qme0 qre1 qco2 s.heap.size) s.heap H locs ∧ H = s.heap ∧ ∀ q ∈ locs, False) ⟨hP, hS, rfl, fun q h => by cases h⟩ (fun H locs hPS => ?_)
  obtain ⟨hP, hS, hHe, hN⟩ := hPS
  have hl : lv_has ls 1 [(0, .ref h0)] := hl
  refine lv_aload_n hx hb dX0_called_0 rfl (lv_at hl 0 rfl) ?_
  refine va_get (D := (dC, dI)) (ci := 0) (v := .int st.2.2.2.2.2) (C := "PagedHart") (T := TX0) (N := 6) hx hb hts mU0 hown hK hP 0 rfl rfl 5 (by decide) (hts _ mF_0_27) (fun _ h9 => h9) rfl dX0_called_1 ?_
  exact W.zret (v := st.2.2.2.2.2) hx hb hr (jnb he) (fun t ht hW => ⟨jq (by exact (rfl).symm), ht.trans hHe⟩) (fun q h => (hN q h).elim) dX0_called_4
