def r_thrown (st : RS)  : Int32 :=
  st.1
set_option maxHeartbeats 4000000 in
set_option maxRecDepth 100000 in
theorem cr_thrown (l : Launch) (dC : Nat → ClassId) (dI : Nat → Nat → Nat) (cI h0 qme0 qre1 tN tB : Nat) (sz : Nat) (st : RS)   : Met l yX1_thrown (.code yX1_thrown cX1_thrown 1 (some .int) :: gBIG) ({ frames := 0, cells := 0, slots := 0, locals := 0 }) (va_Pc [.ref h0] (rPre dC dI cI h0 qme0 qre1 tN tB sz st)) (QcRead (r_thrown st)) 0 0 (fun _ => False) := by
  refine Met.ofW (cc := cX1_thrown) (maxL := 1) (ret := (some .int)) (by decide) rfl ?_
  intro p e s m args below meth c s₁ B hml hv
  obtain ⟨rfl, hsz, hP, hK, hD0, hZ⟩ := hv
  have hx := B.exec
  have hb := B.bytes
  have hr := B.returns
  have hts : ∀ w ∈ gBIG, w.before _ s = true := fun w h => atoms_spec (ws := (.code yX1_thrown cX1_thrown 1 (some .int) :: gBIG)) B.pre w (List.mem_cons_of_mem _ h)
  have hown : s.vm.findClass "PagedHartModel" = some m.cls := findClass_of_methodNamed B.named
  have hlocks := B.notSynchronized
  subst hsz
  have hD : va_D (rA h0 qme0 qre1 s.heap.size) (rW cI h0 qme0 qre1 st) := rD hD0
  have hS : va_S (rA h0 qme0 qre1 s.heap.size) s.heap s.heap [] := va_S.rf
  have hP : va_P (dC, dI) vwCl (rW cI h0 qme0 qre1 st) s.heap := hP
  have hl := lv_entry ([.ref h0]) (n := 1) (Nat.le_of_ble_eq_true rfl)
  rw [lg_entry_eq]
  generalize (lg_sl ([.ref h0]) ++ List.replicate (1 - (lg_sl ([.ref h0])).length) Slot.unset).toArray = ls at hl ⊢
  refine jgo (P := fun H locs => va_P (dC, dI) vwCl (rW cI h0 qme0 qre1 st) H ∧ va_S (rA h0 qme0 qre1 s.heap.size) s.heap H locs ∧ H = s.heap ∧ ∀ q ∈ locs, False) ⟨hP, hS, rfl, fun q h => by cases h⟩ (fun H locs hPS => ?_)
  obtain ⟨hP, hS, hHe, hN⟩ := hPS
  have hl : lv_has ls 1 [(0, .ref h0)] := hl
  refine lv_aload_n hx hb dX1_thrown_0 rfl (lv_at hl 0 rfl) ?_
  refine va_get (D := (dC, dI)) (ci := 1) (v := .int st.1) (C := "PagedHartModel") (T := TX1) (N := 18) hx hb hts mU1 hown hK hP 0 rfl rfl 0 (by decide) (hts _ mF_1_31) (fun _ h9 => h9) rfl dX1_thrown_1 ?_
  exact W.iret (v := st.1) hx hb hr (fun t ht hW => ⟨jq (by exact (rfl).symm), ht.trans hHe⟩) (fun q h => (hN q h).elim) dX1_thrown_4

def r_lets (st : RS) (p1 : Int32) (p2 : Int32) (p3 : Int32) : Int32 :=
  let x1 : Int32 := (let x3 : Int32 := r_has p1 (0 : Int32); (if x3 = 0 then (0 : Int32) else (let x5 : Int32 := r_has p1 (2 : Int32); (if x5 = 0 then (let x7 : Int32 := r_has p1 (1 : Int32); (if x7 = 0 then (let x11 : Int32 := r_has p1 (3 : Int32); (if x11 = 0 then (0 : Int32) else (let x13 : Int32 := r_has p1 (6 : Int32); (if x13 = 0 then (0 : Int32) else (1 : Int32))))) else (let x9 : Int32 := r_has p1 (6 : Int32); (if x9 = 0 then (0 : Int32) else (1 : Int32))))) else (let x15 : Int32 := r_has p1 (1 : Int32); (if x15 = 0 then (0 : Int32) else (let x17 : Int32 := r_has p1 (1 : Int32); (if x17 = 0 then (let x21 : Int32 := r_has p1 (3 : Int32); (if x21 = 0 then (0 : Int32) else (let x23 : Int32 := r_has p1 (6 : Int32); (if x23 = 0 then (0 : Int32) else (1 : Int32))))) else (let x19 : Int32 := r_has p1 (6 : Int32); (if x19 = 0 then (0 : Int32) else (1 : Int32)))))))))))
  let x25 : Int32 := (if x1 = 0 then (0 : Int32) else (if p3 = 0 then (1 : Int32) else (let x29 : Int32 := r_bits p1 (10 : Int32) (19 : Int32); (if x29 = 0 then (1 : Int32) else (0 : Int32)))))
  let x31 : Int32 := (if x25 = 0 then (0 : Int32) else (if p2 = (1 : Int32) then (let x42 : Int32 := r_has p1 (1 : Int32); (if x42 = 0 then (0 : Int32) else (1 : Int32))) else (if p2 = (2 : Int32) then (let x38 : Int32 := r_has p1 (2 : Int32); (if x38 = 0 then (0 : Int32) else (let x40 : Int32 := r_has p1 (7 : Int32); (if x40 = 0 then (0 : Int32) else (1 : Int32))))) else (let x36 : Int32 := r_has p1 (3 : Int32); (if x36 = 0 then (0 : Int32) else (1 : Int32))))))
  if st.2.2.2.2.1 = 0 then
    if x31 = 0 then
      (0 : Int32)
    else
      let x51 : Int32 := r_has p1 (4 : Int32)
      if x51 = 0 then
        (0 : Int32)
      else
        (1 : Int32)
  else
    if x31 = 0 then
      (0 : Int32)
    else
      let x46 : Int32 := r_has p1 (4 : Int32)
      if x46 = 0 then
        (1 : Int32)
      else
        if p2 = 0 then
          (0 : Int32)
        else
          if (st.2.2.2.2.2.1 &&& (262144 : Int32)) = 0 then
            (0 : Int32)
          else
            (1 : Int32)
set_option maxHeartbeats 4000000 in
set_option maxRecDepth 100000 in
theorem cr_lets (l : Launch) (dC : Nat → ClassId) (dI : Nat → Nat → Nat) (cI h0 qme0 qre1 tN tB : Nat) (sz : Nat) (st : RS) (p1 : Int32) (p2 : Int32) (p3 : Int32)  : Met l yX1_lets (.code yX1_lets cX1_lets 5 (some .boolean) :: gBIG) ({ frames := 2, cells := 0, slots := 0, locals := 42 }) (va_Pc [.ref h0, .int p1, .int p2, .int p3] (rPre dC dI cI h0 qme0 qre1 tN tB sz st)) (QcRead (r_lets st p1 p2 p3)) 0 0 (fun _ => False) := by
  refine Met.ofW (cc := cX1_lets) (maxL := 5) (ret := (some .boolean)) (by decide) rfl ?_
  intro p e s m args below meth c s₁ B hml hv
  obtain ⟨rfl, hsz, hP, hK, hD0, hZ⟩ := hv
  have hx := B.exec
  have hb := B.bytes
  have hr := B.returns
  have hts : ∀ w ∈ gBIG, w.before _ s = true := fun w h => atoms_spec (ws := (.code yX1_lets cX1_lets 5 (some .boolean) :: gBIG)) B.pre w (List.mem_cons_of_mem _ h)
  have hown : s.vm.findClass "PagedHartModel" = some m.cls := findClass_of_methodNamed B.named
  have hlocks := B.notSynchronized
  subst hsz
  have hD : va_D (rA h0 qme0 qre1 s.heap.size) (rW cI h0 qme0 qre1 st) := rD hD0
  have hS : va_S (rA h0 qme0 qre1 s.heap.size) s.heap s.heap [] := va_S.rf
  have hP : va_P (dC, dI) vwCl (rW cI h0 qme0 qre1 st) s.heap := hP
  have hl := lv_entry ([.ref h0, .int p1, .int p2, .int p3]) (n := 5) (Nat.le_of_ble_eq_true rfl)
  rw [lg_entry_eq]
  generalize (lg_sl ([.ref h0, .int p1, .int p2, .int p3]) ++ List.replicate (5 - (lg_sl ([.ref h0, .int p1, .int p2, .int p3])).length) Slot.unset).toArray = ls at hl ⊢
  refine jgo (P := fun H locs => va_P (dC, dI) vwCl (rW cI h0 qme0 qre1 st) H ∧ va_S (rA h0 qme0 qre1 s.heap.size) s.heap H locs ∧ H = s.heap ∧ ∀ q ∈ locs, False) ⟨hP, hS, rfl, fun q h => by cases h⟩ (fun H locs hPS => ?_)
  obtain ⟨hP, hS, hHe, hN⟩ := hPS
  have hl : lv_has ls 5 [(0, .ref h0), (1, .int p1), (2, .int p2), (3, .int p3)] := hl
  refine jjoin (EX := (let x3 : Int32 := r_has p1 (0 : Int32); (if x3 = 0 then (0 : Int32) else (let x5 : Int32 := r_has p1 (2 : Int32); (if x5 = 0 then (let x7 : Int32 := r_has p1 (1 : Int32); (if x7 = 0 then (let x11 : Int32 := r_has p1 (3 : Int32); (if x11 = 0 then (0 : Int32) else (let x13 : Int32 := r_has p1 (6 : Int32); (if x13 = 0 then (0 : Int32) else (1 : Int32))))) else (let x9 : Int32 := r_has p1 (6 : Int32); (if x9 = 0 then (0 : Int32) else (1 : Int32))))) else (let x15 : Int32 := r_has p1 (1 : Int32); (if x15 = 0 then (0 : Int32) else (let x17 : Int32 := r_has p1 (1 : Int32); (if x17 = 0 then (let x21 : Int32 := r_has p1 (3 : Int32); (if x21 = 0 then (0 : Int32) else (let x23 : Int32 := r_has p1 (6 : Int32); (if x23 = 0 then (0 : Int32) else (1 : Int32))))) else (let x19 : Int32 := r_has p1 (6 : Int32); (if x19 = 0 then (0 : Int32) else (1 : Int32)))))))))))) (J := 54) (rest := []) (fun x1 ex1 => ?_) (fun hj2 => ?_)
  · refine lv_istore (lv' := [(4, .int x1), (0, .ref h0), (1, .int p1), (2, .int p2), (3, .int p3)]) hx hb dX1_lets_54 hl (by decide) rfl (fun ls hl => ?_)
    refine jjoin (EX := (if x1 = 0 then (0 : Int32) else (if p3 = 0 then (1 : Int32) else (let x29 : Int32 := r_bits p1 (10 : Int32) (19 : Int32); (if x29 = 0 then (1 : Int32) else (0 : Int32)))))) (J := 81) (rest := []) (fun x25 ex25 => ?_) (fun hj26 => ?_)
    · refine lv_istore (lv' := [(4, .int x25), (0, .ref h0), (1, .int p1), (2, .int p2), (3, .int p3)]) hx hb dX1_lets_81 hl (by decide) rfl (fun ls hl => ?_)
      refine jjoin (EX := (if x25 = 0 then (0 : Int32) else (if p2 = (1 : Int32) then (let x42 : Int32 := r_has p1 (1 : Int32); (if x42 = 0 then (0 : Int32) else (1 : Int32))) else (if p2 = (2 : Int32) then (let x38 : Int32 := r_has p1 (2 : Int32); (if x38 = 0 then (0 : Int32) else (let x40 : Int32 := r_has p1 (7 : Int32); (if x40 = 0 then (0 : Int32) else (1 : Int32))))) else (let x36 : Int32 := r_has p1 (3 : Int32); (if x36 = 0 then (0 : Int32) else (1 : Int32))))))) (J := 142) (rest := []) (fun x31 ex31 => ?_) (fun hj32 => ?_)
      · refine lv_istore (lv' := [(4, .int x31), (0, .ref h0), (1, .int p1), (2, .int p2), (3, .int p3)]) hx hb dX1_lets_142 hl (by decide) rfl (fun ls hl => ?_)
        refine lv_aload_n hx hb dX1_lets_144 rfl (lv_at hl 1 rfl) ?_
        refine va_get (D := (dC, dI)) (ci := 1) (v := .int st.2.2.2.2.1) (C := "PagedHartModel") (T := TX1) (N := 18) hx hb hts mU1 hown hK hP 0 rfl rfl 4 (by decide) (hts _ mF_1_17) (fun _ h9 => h9) rfl dX1_lets_145 ?_
        refine lv_if_ne (tgt := 170) hx hb dX1_lets_148 (by decide) (fun c44 => ?_) (fun c44 => ?_)
        · refine lv_iload hx hb dX1_lets_170 (lv_at hl 0 rfl) ?_
          refine lv_if_eq (tgt := 201) hx hb dX1_lets_172 (by decide) (fun c45 => ?_) (fun c45 => ?_)
          · refine lv_iconst (v := 0) hx hb dX1_lets_201 (by decide) ?_
            exact W.zret (v := 0) hx hb hr rfl (fun t ht hW => ⟨jq (by subst ex31 ex25 ex1; exact (((if_neg c44).trans ((if_pos c45).trans rfl))).symm), ht.trans hHe⟩) (fun q h => (hN q h).elim) dX1_lets_202
          · refine lv_iload_n hx hb dX1_lets_175 rfl (lv_at hl 2 rfl) ?_
            refine lv_iconst (v := 4) hx hb dX1_lets_176 (by decide) ?_
            refine W.callR (W.runS (As := [.int p1, .int 4]) (rest := []) ⟨hx, hb, hml, hown, hts⟩ (cr_has l p1 (4 : Int32)) (cwS 2 hts (gS mL_1_42 mS_1_has mN_1 mB_1_has) rfl rfl rfl (by decide +kernel) ⟨Nat.le_of_ble_eq_true rfl, Nat.le_of_ble_eq_true rfl⟩) ⟨jblind, fun _ _ _ => ⟨rfl, trivial⟩⟩ rfl rfl hl.1 rfl (lv_room (Nat.le_of_ble_eq_true rfl)) dX1_lets_177 ⟨Nat.zero_le _, Nat.zero_le _⟩) ?_
            refine W.eq (g2 := F0 m 180 ls (.int (r_has p1 (4 : Int32)) :: [])) rfl ?_
            refine lv_topi (fun x46 ex46 => ?_)
            refine lv_if_eq (tgt := 197) hx hb dX1_lets_180 (by decide) (fun c47 => ?_) (fun c47 => ?_)
            · refine lv_iconst (v := 1) hx hb dX1_lets_197 (by decide) ?_
              refine lv_goto (tgt := 202) hx hb dX1_lets_198 (by decide) ?_
              exact W.zret (v := 1) hx hb hr rfl (fun t ht hW => ⟨jq (by subst ex46 ex31 ex25 ex1; exact (((if_neg c44).trans ((if_neg c45).trans ((if_pos c47).trans rfl)))).symm), ht.trans hHe⟩) (fun q h => (hN q h).elim) dX1_lets_202
            · refine lv_iload_n hx hb dX1_lets_183 rfl (lv_at hl 3 rfl) ?_
              refine lv_if_eq (tgt := 201) hx hb dX1_lets_184 (by decide) (fun c48 => ?_) (fun c48 => ?_)
              · refine lv_iconst (v := 0) hx hb dX1_lets_201 (by decide) ?_
                exact W.zret (v := 0) hx hb hr rfl (fun t ht hW => ⟨jq (by subst ex46 ex31 ex25 ex1; exact (((if_neg c44).trans ((if_neg c45).trans ((if_neg c47).trans ((if_pos c48).trans rfl))))).symm), ht.trans hHe⟩) (fun q h => (hN q h).elim) dX1_lets_202
              · refine lv_aload_n hx hb dX1_lets_187 rfl (lv_at hl 1 rfl) ?_
                refine va_get (D := (dC, dI)) (ci := 1) (v := .int st.2.2.2.2.2.1) (C := "PagedHartModel") (T := TX1) (N := 18) hx hb hts mU1 hown hK hP 0 rfl rfl 5 (by decide) (hts _ mF_1_50) (fun _ h9 => h9) rfl dX1_lets_188 ?_
                refine lv_ldc (v := 262144) hx hb hown (hts _ mC_1_53) dX1_lets_191 ?_
                refine lv_iand hx hb dX1_lets_193 ?_
                refine lv_if_eq (tgt := 201) hx hb dX1_lets_194 (by decide) (fun c49 => ?_) (fun c49 => ?_)
                · refine lv_iconst (v := 0) hx hb dX1_lets_201 (by decide) ?_
                  exact W.zret (v := 0) hx hb hr rfl (fun t ht hW => ⟨jq (by subst ex46 ex31 ex25 ex1; exact (((if_neg c44).trans ((if_neg c45).trans ((if_neg c47).trans ((if_neg c48).trans ((if_pos c49).trans rfl)))))).symm), ht.trans hHe⟩) (fun q h => (hN q h).elim) dX1_lets_202
                · refine lv_iconst (v := 1) hx hb dX1_lets_197 (by decide) ?_
                  refine lv_goto (tgt := 202) hx hb dX1_lets_198 (by decide) ?_
                  exact W.zret (v := 1) hx hb hr rfl (fun t ht hW => ⟨jq (by subst ex46 ex31 ex25 ex1; exact (((if_neg c44).trans ((if_neg c45).trans ((if_neg c47).trans ((if_neg c48).trans ((if_neg c49).trans rfl)))))).symm), ht.trans hHe⟩) (fun q h => (hN q h).elim) dX1_lets_202
        · refine lv_iload hx hb dX1_lets_151 (lv_at hl 0 rfl) ?_
          refine lv_if_eq (tgt := 168) hx hb dX1_lets_153 (by decide) (fun c50 => ?_) (fun c50 => ?_)
          · refine lv_iconst (v := 0) hx hb dX1_lets_168 (by decide) ?_
            exact W.zret (v := 0) hx hb hr rfl (fun t ht hW => ⟨jq (by subst ex31 ex25 ex1; exact (((if_pos c44).trans ((if_pos c50).trans rfl))).symm), ht.trans hHe⟩) (fun q h => (hN q h).elim) dX1_lets_169
          · refine lv_iload_n hx hb dX1_lets_156 rfl (lv_at hl 2 rfl) ?_
            refine lv_iconst (v := 4) hx hb dX1_lets_157 (by decide) ?_
            refine W.callR (W.runS (As := [.int p1, .int 4]) (rest := []) ⟨hx, hb, hml, hown, hts⟩ (cr_has l p1 (4 : Int32)) (cwS 2 hts (gS mL_1_42 mS_1_has mN_1 mB_1_has) rfl rfl rfl (by decide +kernel) ⟨Nat.le_of_ble_eq_true rfl, Nat.le_of_ble_eq_true rfl⟩) ⟨jblind, fun _ _ _ => ⟨rfl, trivial⟩⟩ rfl rfl hl.1 rfl (lv_room (Nat.le_of_ble_eq_true rfl)) dX1_lets_158 ⟨Nat.zero_le _, Nat.zero_le _⟩) ?_
            refine W.eq (g2 := F0 m 161 ls (.int (r_has p1 (4 : Int32)) :: [])) rfl ?_
            refine lv_topi (fun x51 ex51 => ?_)
            refine lv_if_eq (tgt := 168) hx hb dX1_lets_161 (by decide) (fun c52 => ?_) (fun c52 => ?_)
            · refine lv_iconst (v := 0) hx hb dX1_lets_168 (by decide) ?_
              exact W.zret (v := 0) hx hb hr rfl (fun t ht hW => ⟨jq (by subst ex51 ex31 ex25 ex1; exact (((if_pos c44).trans ((if_neg c50).trans ((if_pos c52).trans rfl)))).symm), ht.trans hHe⟩) (fun q h => (hN q h).elim) dX1_lets_169
            · refine lv_iconst (v := 1) hx hb dX1_lets_164 (by decide) ?_
              refine lv_goto (tgt := 169) hx hb dX1_lets_165 (by decide) ?_
              exact W.zret (v := 1) hx hb hr rfl (fun t ht hW => ⟨jq (by subst ex51 ex31 ex25 ex1; exact (((if_pos c44).trans ((if_neg c50).trans ((if_neg c52).trans rfl)))).symm), ht.trans hHe⟩) (fun q h => (hN q h).elim) dX1_lets_169
      · refine lv_iload hx hb dX1_lets_83 (lv_at hl 0 rfl) ?_
        refine lv_if_eq (tgt := 141) hx hb dX1_lets_85 (by decide) (fun c33 => ?_) (fun c33 => ?_)
        · refine lv_iconst (v := 0) hx hb dX1_lets_141 (by decide) ?_
          exact hj32 0 (by exact (((if_pos c33).trans rfl)).symm)
        · refine lv_iload_n hx hb dX1_lets_88 rfl (lv_at hl 3 rfl) ?_
          refine lv_iconst (v := 1) hx hb dX1_lets_89 (by decide) ?_
          refine lv_icmp_ne (tgt := 104) hx hb dX1_lets_90 (by decide) (fun c34 => ?_) (fun c34 => ?_)
          · refine lv_iload_n hx hb dX1_lets_104 rfl (lv_at hl 3 rfl) ?_
            refine lv_iconst (v := 2) hx hb dX1_lets_105 (by decide) ?_
            refine lv_icmp_ne (tgt := 129) hx hb dX1_lets_106 (by decide) (fun c35 => ?_) (fun c35 => ?_)
            · refine lv_iload_n hx hb dX1_lets_129 rfl (lv_at hl 2 rfl) ?_
              refine lv_iconst (v := 3) hx hb dX1_lets_130 (by decide) ?_
              refine W.callR (W.runS (As := [.int p1, .int 3]) (rest := []) ⟨hx, hb, hml, hown, hts⟩ (cr_has l p1 (3 : Int32)) (cwS 2 hts (gS mL_1_42 mS_1_has mN_1 mB_1_has) rfl rfl rfl (by decide +kernel) ⟨Nat.le_of_ble_eq_true rfl, Nat.le_of_ble_eq_true rfl⟩) ⟨jblind, fun _ _ _ => ⟨rfl, trivial⟩⟩ rfl rfl hl.1 rfl (lv_room (Nat.le_of_ble_eq_true rfl)) dX1_lets_131 ⟨Nat.zero_le _, Nat.zero_le _⟩) ?_
              refine W.eq (g2 := F0 m 134 ls (.int (r_has p1 (3 : Int32)) :: [])) rfl ?_
              refine lv_topi (fun x36 ex36 => ?_)
              refine lv_if_eq (tgt := 141) hx hb dX1_lets_134 (by decide) (fun c37 => ?_) (fun c37 => ?_)
              · refine lv_iconst (v := 0) hx hb dX1_lets_141 (by decide) ?_
                exact hj32 0 (by subst ex36; exact (((if_neg c33).trans ((if_neg c34).trans ((if_neg c35).trans ((if_pos c37).trans rfl))))).symm)
              · refine lv_iconst (v := 1) hx hb dX1_lets_137 (by decide) ?_
                refine lv_goto (tgt := 142) hx hb dX1_lets_138 (by decide) ?_
                exact hj32 1 (by subst ex36; exact (((if_neg c33).trans ((if_neg c34).trans ((if_neg c35).trans ((if_neg c37).trans rfl))))).symm)
            · refine lv_iload_n hx hb dX1_lets_109 rfl (lv_at hl 2 rfl) ?_
              refine lv_iconst (v := 2) hx hb dX1_lets_110 (by decide) ?_
              refine W.callR (W.runS (As := [.int p1, .int 2]) (rest := []) ⟨hx, hb, hml, hown, hts⟩ (cr_has l p1 (2 : Int32)) (cwS 2 hts (gS mL_1_42 mS_1_has mN_1 mB_1_has) rfl rfl rfl (by decide +kernel) ⟨Nat.le_of_ble_eq_true rfl, Nat.le_of_ble_eq_true rfl⟩) ⟨jblind, fun _ _ _ => ⟨rfl, trivial⟩⟩ rfl rfl hl.1 rfl (lv_room (Nat.le_of_ble_eq_true rfl)) dX1_lets_111 ⟨Nat.zero_le _, Nat.zero_le _⟩) ?_
              refine W.eq (g2 := F0 m 114 ls (.int (r_has p1 (2 : Int32)) :: [])) rfl ?_
              refine lv_topi (fun x38 ex38 => ?_)
              refine lv_if_eq (tgt := 141) hx hb dX1_lets_114 (by decide) (fun c39 => ?_) (fun c39 => ?_)
              · refine lv_iconst (v := 0) hx hb dX1_lets_141 (by decide) ?_
                exact hj32 0 (by subst ex38; exact (((if_neg c33).trans ((if_neg c34).trans ((if_pos c35).trans ((if_pos c39).trans rfl))))).symm)
              · refine lv_iload_n hx hb dX1_lets_117 rfl (lv_at hl 2 rfl) ?_
                refine lv_bipush (v := 7) hx hb dX1_lets_118 (by decide) ?_
                refine W.callR (W.runS (As := [.int p1, .int 7]) (rest := []) ⟨hx, hb, hml, hown, hts⟩ (cr_has l p1 (7 : Int32)) (cwS 2 hts (gS mL_1_42 mS_1_has mN_1 mB_1_has) rfl rfl rfl (by decide +kernel) ⟨Nat.le_of_ble_eq_true rfl, Nat.le_of_ble_eq_true rfl⟩) ⟨jblind, fun _ _ _ => ⟨rfl, trivial⟩⟩ rfl rfl hl.1 rfl (lv_room (Nat.le_of_ble_eq_true rfl)) dX1_lets_120 ⟨Nat.zero_le _, Nat.zero_le _⟩) ?_
                refine W.eq (g2 := F0 m 123 ls (.int (r_has p1 (7 : Int32)) :: [])) rfl ?_
                refine lv_topi (fun x40 ex40 => ?_)
                refine lv_if_eq (tgt := 141) hx hb dX1_lets_123 (by decide) (fun c41 => ?_) (fun c41 => ?_)
                · refine lv_iconst (v := 0) hx hb dX1_lets_141 (by decide) ?_
                  exact hj32 0 (by subst ex40 ex38; exact (((if_neg c33).trans ((if_neg c34).trans ((if_pos c35).trans ((if_neg c39).trans ((if_pos c41).trans rfl)))))).symm)
                · refine lv_goto (tgt := 137) hx hb dX1_lets_126 (by decide) ?_
                  refine lv_iconst (v := 1) hx hb dX1_lets_137 (by decide) ?_
                  refine lv_goto (tgt := 142) hx hb dX1_lets_138 (by decide) ?_
                  exact hj32 1 (by subst ex40 ex38; exact (((if_neg c33).trans ((if_neg c34).trans ((if_pos c35).trans ((if_neg c39).trans ((if_neg c41).trans rfl)))))).symm)
          · refine lv_iload_n hx hb dX1_lets_93 rfl (lv_at hl 2 rfl) ?_
            refine lv_iconst (v := 1) hx hb dX1_lets_94 (by decide) ?_
            refine W.callR (W.runS (As := [.int p1, .int 1]) (rest := []) ⟨hx, hb, hml, hown, hts⟩ (cr_has l p1 (1 : Int32)) (cwS 2 hts (gS mL_1_42 mS_1_has mN_1 mB_1_has) rfl rfl rfl (by decide +kernel) ⟨Nat.le_of_ble_eq_true rfl, Nat.le_of_ble_eq_true rfl⟩) ⟨jblind, fun _ _ _ => ⟨rfl, trivial⟩⟩ rfl rfl hl.1 rfl (lv_room (Nat.le_of_ble_eq_true rfl)) dX1_lets_95 ⟨Nat.zero_le _, Nat.zero_le _⟩) ?_
            refine W.eq (g2 := F0 m 98 ls (.int (r_has p1 (1 : Int32)) :: [])) rfl ?_
            refine lv_topi (fun x42 ex42 => ?_)
            refine lv_if_eq (tgt := 141) hx hb dX1_lets_98 (by decide) (fun c43 => ?_) (fun c43 => ?_)
            · refine lv_iconst (v := 0) hx hb dX1_lets_141 (by decide) ?_
              exact hj32 0 (by subst ex42; exact (((if_neg c33).trans ((if_pos c34).trans ((if_pos c43).trans rfl)))).symm)
            · refine lv_goto (tgt := 137) hx hb dX1_lets_101 (by decide) ?_
              refine lv_iconst (v := 1) hx hb dX1_lets_137 (by decide) ?_
              refine lv_goto (tgt := 142) hx hb dX1_lets_138 (by decide) ?_
              exact hj32 1 (by subst ex42; exact (((if_neg c33).trans ((if_pos c34).trans ((if_neg c43).trans rfl)))).symm)
    · refine lv_iload hx hb dX1_lets_56 (lv_at hl 0 rfl) ?_
      refine lv_if_eq (tgt := 80) hx hb dX1_lets_58 (by decide) (fun c27 => ?_) (fun c27 => ?_)
      · refine lv_iconst (v := 0) hx hb dX1_lets_80 (by decide) ?_
        exact hj26 0 (by exact (((if_pos c27).trans rfl)).symm)
      · refine lv_iload_n hx hb dX1_lets_61 rfl (lv_at hl 4 rfl) ?_
        refine lv_if_eq (tgt := 76) hx hb dX1_lets_62 (by decide) (fun c28 => ?_) (fun c28 => ?_)
        · refine lv_iconst (v := 1) hx hb dX1_lets_76 (by decide) ?_
          refine lv_goto (tgt := 81) hx hb dX1_lets_77 (by decide) ?_
          exact hj26 1 (by exact (((if_neg c27).trans ((if_pos c28).trans rfl))).symm)
        · refine lv_iload_n hx hb dX1_lets_65 rfl (lv_at hl 2 rfl) ?_
          refine lv_bipush (v := 10) hx hb dX1_lets_66 (by decide) ?_
          refine lv_bipush (v := 19) hx hb dX1_lets_68 (by decide) ?_
          refine W.callR (W.runS (As := [.int p1, .int 10, .int 19]) (rest := []) ⟨hx, hb, hml, hown, hts⟩ (cr_bits l p1 (10 : Int32) (19 : Int32)) (cwS 3 hts (gS mL_1_46 mS_1_bits mN_1 mB_1_bits) rfl rfl rfl (by decide +kernel) ⟨Nat.le_of_ble_eq_true rfl, Nat.le_of_ble_eq_true rfl⟩) ⟨jblind, fun _ _ _ => ⟨rfl, trivial⟩⟩ rfl rfl hl.1 rfl (lv_room (Nat.le_of_ble_eq_true rfl)) dX1_lets_70 ⟨Nat.zero_le _, Nat.zero_le _⟩) ?_
          refine W.eq (g2 := F0 m 73 ls (.int (r_bits p1 (10 : Int32) (19 : Int32)) :: [])) rfl ?_
          refine lv_topi (fun x29 ex29 => ?_)
          refine lv_if_ne (tgt := 80) hx hb dX1_lets_73 (by decide) (fun c30 => ?_) (fun c30 => ?_)
          · refine lv_iconst (v := 0) hx hb dX1_lets_80 (by decide) ?_
            exact hj26 0 (by subst ex29; exact (((if_neg c27).trans ((if_neg c28).trans ((if_neg c30).trans rfl)))).symm)
          · refine lv_iconst (v := 1) hx hb dX1_lets_76 (by decide) ?_
            refine lv_goto (tgt := 81) hx hb dX1_lets_77 (by decide) ?_
            exact hj26 1 (by subst ex29; exact (((if_neg c27).trans ((if_neg c28).trans ((if_pos c30).trans rfl)))).symm)
  · refine lv_iload_n hx hb dX1_lets_0 rfl (lv_at hl 1 rfl) ?_
    refine lv_iconst (v := 0) hx hb dX1_lets_1 (by decide) ?_
    refine W.callR (W.runS (As := [.int p1, .int 0]) (rest := []) ⟨hx, hb, hml, hown, hts⟩ (cr_has l p1 (0 : Int32)) (cwS 2 hts (gS mL_1_42 mS_1_has mN_1 mB_1_has) rfl rfl rfl (by decide +kernel) ⟨Nat.le_of_ble_eq_true rfl, Nat.le_of_ble_eq_true rfl⟩) ⟨jblind, fun _ _ _ => ⟨rfl, trivial⟩⟩ rfl rfl hl.1 rfl (lv_room (Nat.le_of_ble_eq_true rfl)) dX1_lets_2 ⟨Nat.zero_le _, Nat.zero_le _⟩) ?_
    refine W.eq (g2 := F0 m 5 ls (.int (r_has p1 (0 : Int32)) :: [])) rfl ?_
    refine lv_topi (fun x3 ex3 => ?_)
    refine lv_if_eq (tgt := 53) hx hb dX1_lets_5 (by decide) (fun c4 => ?_) (fun c4 => ?_)
    · refine lv_iconst (v := 0) hx hb dX1_lets_53 (by decide) ?_
      exact hj2 0 (by subst ex3; exact (((if_pos c4).trans rfl)).symm)
    · refine lv_iload_n hx hb dX1_lets_8 rfl (lv_at hl 1 rfl) ?_
      refine lv_iconst (v := 2) hx hb dX1_lets_9 (by decide) ?_
      refine W.callR (W.runS (As := [.int p1, .int 2]) (rest := []) ⟨hx, hb, hml, hown, hts⟩ (cr_has l p1 (2 : Int32)) (cwS 2 hts (gS mL_1_42 mS_1_has mN_1 mB_1_has) rfl rfl rfl (by decide +kernel) ⟨Nat.le_of_ble_eq_true rfl, Nat.le_of_ble_eq_true rfl⟩) ⟨jblind, fun _ _ _ => ⟨rfl, trivial⟩⟩ rfl rfl hl.1 rfl (lv_room (Nat.le_of_ble_eq_true rfl)) dX1_lets_10 ⟨Nat.zero_le _, Nat.zero_le _⟩) ?_
      refine W.eq (g2 := F0 m 13 ls (.int (r_has p1 (2 : Int32)) :: [])) rfl ?_
      refine lv_topi (fun x5 ex5 => ?_)
      refine lv_if_eq (tgt := 24) hx hb dX1_lets_13 (by decide) (fun c6 => ?_) (fun c6 => ?_)
      · refine lv_iload_n hx hb dX1_lets_24 rfl (lv_at hl 1 rfl) ?_
        refine lv_iconst (v := 1) hx hb dX1_lets_25 (by decide) ?_
        refine W.callR (W.runS (As := [.int p1, .int 1]) (rest := []) ⟨hx, hb, hml, hown, hts⟩ (cr_has l p1 (1 : Int32)) (cwS 2 hts (gS mL_1_42 mS_1_has mN_1 mB_1_has) rfl rfl rfl (by decide +kernel) ⟨Nat.le_of_ble_eq_true rfl, Nat.le_of_ble_eq_true rfl⟩) ⟨jblind, fun _ _ _ => ⟨rfl, trivial⟩⟩ rfl rfl hl.1 rfl (lv_room (Nat.le_of_ble_eq_true rfl)) dX1_lets_26 ⟨Nat.zero_le _, Nat.zero_le _⟩) ?_
        refine W.eq (g2 := F0 m 29 ls (.int (r_has p1 (1 : Int32)) :: [])) rfl ?_
        refine lv_topi (fun x7 ex7 => ?_)
        refine lv_if_ne (tgt := 40) hx hb dX1_lets_29 (by decide) (fun c8 => ?_) (fun c8 => ?_)
        · refine lv_iload_n hx hb dX1_lets_40 rfl (lv_at hl 1 rfl) ?_
          refine lv_bipush (v := 6) hx hb dX1_lets_41 (by decide) ?_
          refine W.callR (W.runS (As := [.int p1, .int 6]) (rest := []) ⟨hx, hb, hml, hown, hts⟩ (cr_has l p1 (6 : Int32)) (cwS 2 hts (gS mL_1_42 mS_1_has mN_1 mB_1_has) rfl rfl rfl (by decide +kernel) ⟨Nat.le_of_ble_eq_true rfl, Nat.le_of_ble_eq_true rfl⟩) ⟨jblind, fun _ _ _ => ⟨rfl, trivial⟩⟩ rfl rfl hl.1 rfl (lv_room (Nat.le_of_ble_eq_true rfl)) dX1_lets_43 ⟨Nat.zero_le _, Nat.zero_le _⟩) ?_
          refine W.eq (g2 := F0 m 46 ls (.int (r_has p1 (6 : Int32)) :: [])) rfl ?_
          refine lv_topi (fun x9 ex9 => ?_)
          refine lv_if_eq (tgt := 53) hx hb dX1_lets_46 (by decide) (fun c10 => ?_) (fun c10 => ?_)
          · refine lv_iconst (v := 0) hx hb dX1_lets_53 (by decide) ?_
            exact hj2 0 (by subst ex9 ex7 ex5 ex3; exact (((if_neg c4).trans ((if_pos c6).trans ((if_neg c8).trans ((if_pos c10).trans rfl))))).symm)
          · refine lv_iconst (v := 1) hx hb dX1_lets_49 (by decide) ?_
            refine lv_goto (tgt := 54) hx hb dX1_lets_50 (by decide) ?_
            exact hj2 1 (by subst ex9 ex7 ex5 ex3; exact (((if_neg c4).trans ((if_pos c6).trans ((if_neg c8).trans ((if_neg c10).trans rfl))))).symm)
        · refine lv_iload_n hx hb dX1_lets_32 rfl (lv_at hl 1 rfl) ?_
          refine lv_iconst (v := 3) hx hb dX1_lets_33 (by decide) ?_
          refine W.callR (W.runS (As := [.int p1, .int 3]) (rest := []) ⟨hx, hb, hml, hown, hts⟩ (cr_has l p1 (3 : Int32)) (cwS 2 hts (gS mL_1_42 mS_1_has mN_1 mB_1_has) rfl rfl rfl (by decide +kernel) ⟨Nat.le_of_ble_eq_true rfl, Nat.le_of_ble_eq_true rfl⟩) ⟨jblind, fun _ _ _ => ⟨rfl, trivial⟩⟩ rfl rfl hl.1 rfl (lv_room (Nat.le_of_ble_eq_true rfl)) dX1_lets_34 ⟨Nat.zero_le _, Nat.zero_le _⟩) ?_
          refine W.eq (g2 := F0 m 37 ls (.int (r_has p1 (3 : Int32)) :: [])) rfl ?_
          refine lv_topi (fun x11 ex11 => ?_)
          refine lv_if_eq (tgt := 53) hx hb dX1_lets_37 (by decide) (fun c12 => ?_) (fun c12 => ?_)
          · refine lv_iconst (v := 0) hx hb dX1_lets_53 (by decide) ?_
            exact hj2 0 (by subst ex11 ex7 ex5 ex3; exact (((if_neg c4).trans ((if_pos c6).trans ((if_pos c8).trans ((if_pos c12).trans rfl))))).symm)
          · refine lv_iload_n hx hb dX1_lets_40 rfl (lv_at hl 1 rfl) ?_
            refine lv_bipush (v := 6) hx hb dX1_lets_41 (by decide) ?_
            refine W.callR (W.runS (As := [.int p1, .int 6]) (rest := []) ⟨hx, hb, hml, hown, hts⟩ (cr_has l p1 (6 : Int32)) (cwS 2 hts (gS mL_1_42 mS_1_has mN_1 mB_1_has) rfl rfl rfl (by decide +kernel) ⟨Nat.le_of_ble_eq_true rfl, Nat.le_of_ble_eq_true rfl⟩) ⟨jblind, fun _ _ _ => ⟨rfl, trivial⟩⟩ rfl rfl hl.1 rfl (lv_room (Nat.le_of_ble_eq_true rfl)) dX1_lets_43 ⟨Nat.zero_le _, Nat.zero_le _⟩) ?_
            refine W.eq (g2 := F0 m 46 ls (.int (r_has p1 (6 : Int32)) :: [])) rfl ?_
            refine lv_topi (fun x13 ex13 => ?_)
            refine lv_if_eq (tgt := 53) hx hb dX1_lets_46 (by decide) (fun c14 => ?_) (fun c14 => ?_)
            · refine lv_iconst (v := 0) hx hb dX1_lets_53 (by decide) ?_
              exact hj2 0 (by subst ex13 ex11 ex7 ex5 ex3; exact (((if_neg c4).trans ((if_pos c6).trans ((if_pos c8).trans ((if_neg c12).trans ((if_pos c14).trans rfl)))))).symm)
            · refine lv_iconst (v := 1) hx hb dX1_lets_49 (by decide) ?_
              refine lv_goto (tgt := 54) hx hb dX1_lets_50 (by decide) ?_
              exact hj2 1 (by subst ex13 ex11 ex7 ex5 ex3; exact (((if_neg c4).trans ((if_pos c6).trans ((if_pos c8).trans ((if_neg c12).trans ((if_neg c14).trans rfl)))))).symm)
      · refine lv_iload_n hx hb dX1_lets_16 rfl (lv_at hl 1 rfl) ?_
        refine lv_iconst (v := 1) hx hb dX1_lets_17 (by decide) ?_
        refine W.callR (W.runS (As := [.int p1, .int 1]) (rest := []) ⟨hx, hb, hml, hown, hts⟩ (cr_has l p1 (1 : Int32)) (cwS 2 hts (gS mL_1_42 mS_1_has mN_1 mB_1_has) rfl rfl rfl (by decide +kernel) ⟨Nat.le_of_ble_eq_true rfl, Nat.le_of_ble_eq_true rfl⟩) ⟨jblind, fun _ _ _ => ⟨rfl, trivial⟩⟩ rfl rfl hl.1 rfl (lv_room (Nat.le_of_ble_eq_true rfl)) dX1_lets_18 ⟨Nat.zero_le _, Nat.zero_le _⟩) ?_
        refine W.eq (g2 := F0 m 21 ls (.int (r_has p1 (1 : Int32)) :: [])) rfl ?_
        refine lv_topi (fun x15 ex15 => ?_)
        refine lv_if_eq (tgt := 53) hx hb dX1_lets_21 (by decide) (fun c16 => ?_) (fun c16 => ?_)
        · refine lv_iconst (v := 0) hx hb dX1_lets_53 (by decide) ?_
          exact hj2 0 (by subst ex15 ex5 ex3; exact (((if_neg c4).trans ((if_neg c6).trans ((if_pos c16).trans rfl)))).symm)
        · refine lv_iload_n hx hb dX1_lets_24 rfl (lv_at hl 1 rfl) ?_
          refine lv_iconst (v := 1) hx hb dX1_lets_25 (by decide) ?_
          refine W.callR (W.runS (As := [.int p1, .int 1]) (rest := []) ⟨hx, hb, hml, hown, hts⟩ (cr_has l p1 (1 : Int32)) (cwS 2 hts (gS mL_1_42 mS_1_has mN_1 mB_1_has) rfl rfl rfl (by decide +kernel) ⟨Nat.le_of_ble_eq_true rfl, Nat.le_of_ble_eq_true rfl⟩) ⟨jblind, fun _ _ _ => ⟨rfl, trivial⟩⟩ rfl rfl hl.1 rfl (lv_room (Nat.le_of_ble_eq_true rfl)) dX1_lets_26 ⟨Nat.zero_le _, Nat.zero_le _⟩) ?_
          refine W.eq (g2 := F0 m 29 ls (.int (r_has p1 (1 : Int32)) :: [])) rfl ?_
          refine lv_topi (fun x17 ex17 => ?_)
          refine lv_if_ne (tgt := 40) hx hb dX1_lets_29 (by decide) (fun c18 => ?_) (fun c18 => ?_)
          · refine lv_iload_n hx hb dX1_lets_40 rfl (lv_at hl 1 rfl) ?_
            refine lv_bipush (v := 6) hx hb dX1_lets_41 (by decide) ?_
            refine W.callR (W.runS (As := [.int p1, .int 6]) (rest := []) ⟨hx, hb, hml, hown, hts⟩ (cr_has l p1 (6 : Int32)) (cwS 2 hts (gS mL_1_42 mS_1_has mN_1 mB_1_has) rfl rfl rfl (by decide +kernel) ⟨Nat.le_of_ble_eq_true rfl, Nat.le_of_ble_eq_true rfl⟩) ⟨jblind, fun _ _ _ => ⟨rfl, trivial⟩⟩ rfl rfl hl.1 rfl (lv_room (Nat.le_of_ble_eq_true rfl)) dX1_lets_43 ⟨Nat.zero_le _, Nat.zero_le _⟩) ?_
            refine W.eq (g2 := F0 m 46 ls (.int (r_has p1 (6 : Int32)) :: [])) rfl ?_
            refine lv_topi (fun x19 ex19 => ?_)
            refine lv_if_eq (tgt := 53) hx hb dX1_lets_46 (by decide) (fun c20 => ?_) (fun c20 => ?_)
            · refine lv_iconst (v := 0) hx hb dX1_lets_53 (by decide) ?_
              exact hj2 0 (by subst ex19 ex17 ex15 ex5 ex3; exact (((if_neg c4).trans ((if_neg c6).trans ((if_neg c16).trans ((if_neg c18).trans ((if_pos c20).trans rfl)))))).symm)
            · refine lv_iconst (v := 1) hx hb dX1_lets_49 (by decide) ?_
              refine lv_goto (tgt := 54) hx hb dX1_lets_50 (by decide) ?_
              exact hj2 1 (by subst ex19 ex17 ex15 ex5 ex3; exact (((if_neg c4).trans ((if_neg c6).trans ((if_neg c16).trans ((if_neg c18).trans ((if_neg c20).trans rfl)))))).symm)
          · refine lv_iload_n hx hb dX1_lets_32 rfl (lv_at hl 1 rfl) ?_
            refine lv_iconst (v := 3) hx hb dX1_lets_33 (by decide) ?_
            refine W.callR (W.runS (As := [.int p1, .int 3]) (rest := []) ⟨hx, hb, hml, hown, hts⟩ (cr_has l p1 (3 : Int32)) (cwS 2 hts (gS mL_1_42 mS_1_has mN_1 mB_1_has) rfl rfl rfl (by decide +kernel) ⟨Nat.le_of_ble_eq_true rfl, Nat.le_of_ble_eq_true rfl⟩) ⟨jblind, fun _ _ _ => ⟨rfl, trivial⟩⟩ rfl rfl hl.1 rfl (lv_room (Nat.le_of_ble_eq_true rfl)) dX1_lets_34 ⟨Nat.zero_le _, Nat.zero_le _⟩) ?_
            refine W.eq (g2 := F0 m 37 ls (.int (r_has p1 (3 : Int32)) :: [])) rfl ?_
            refine lv_topi (fun x21 ex21 => ?_)
            refine lv_if_eq (tgt := 53) hx hb dX1_lets_37 (by decide) (fun c22 => ?_) (fun c22 => ?_)
            · refine lv_iconst (v := 0) hx hb dX1_lets_53 (by decide) ?_
              exact hj2 0 (by subst ex21 ex17 ex15 ex5 ex3; exact (((if_neg c4).trans ((if_neg c6).trans ((if_neg c16).trans ((if_pos c18).trans ((if_pos c22).trans rfl)))))).symm)
            · refine lv_iload_n hx hb dX1_lets_40 rfl (lv_at hl 1 rfl) ?_
              refine lv_bipush (v := 6) hx hb dX1_lets_41 (by decide) ?_
              refine W.callR (W.runS (As := [.int p1, .int 6]) (rest := []) ⟨hx, hb, hml, hown, hts⟩ (cr_has l p1 (6 : Int32)) (cwS 2 hts (gS mL_1_42 mS_1_has mN_1 mB_1_has) rfl rfl rfl (by decide +kernel) ⟨Nat.le_of_ble_eq_true rfl, Nat.le_of_ble_eq_true rfl⟩) ⟨jblind, fun _ _ _ => ⟨rfl, trivial⟩⟩ rfl rfl hl.1 rfl (lv_room (Nat.le_of_ble_eq_true rfl)) dX1_lets_43 ⟨Nat.zero_le _, Nat.zero_le _⟩) ?_
              refine W.eq (g2 := F0 m 46 ls (.int (r_has p1 (6 : Int32)) :: [])) rfl ?_
              refine lv_topi (fun x23 ex23 => ?_)
              refine lv_if_eq (tgt := 53) hx hb dX1_lets_46 (by decide) (fun c24 => ?_) (fun c24 => ?_)
              · refine lv_iconst (v := 0) hx hb dX1_lets_53 (by decide) ?_
                exact hj2 0 (by subst ex23 ex21 ex17 ex15 ex5 ex3; exact (((if_neg c4).trans ((if_neg c6).trans ((if_neg c16).trans ((if_pos c18).trans ((if_neg c22).trans ((if_pos c24).trans rfl))))))).symm)
              · refine lv_iconst (v := 1) hx hb dX1_lets_49 (by decide) ?_
                refine lv_goto (tgt := 54) hx hb dX1_lets_50 (by decide) ?_
                exact hj2 1 (by subst ex23 ex21 ex17 ex15 ex5 ex3; exact (((if_neg c4).trans ((if_neg c6).trans ((if_neg c16).trans ((if_pos c18).trans ((if_neg c22).trans ((if_neg c24).trans rfl))))))).symm)

def r_controlOf (st : RS) (p1 : Int32) : Int32 :=
  if p1 = 256 then
    st.2.2.2.2.2.1
  else
    if p1 = 261 then
      st.2.2.2.2.2.2.1
    else
      if p1 = 320 then
        st.2.2.2.2.2.2.2.1
      else
        if p1 = 321 then
          st.2.2.2.2.2.2.2.2.1
        else
          if p1 = 322 then
            st.2.2.2.2.2.2.2.2.2.1
          else
            if p1 = 323 then
              st.2.2.2.2.2.2.2.2.2.2.1
            else
              if p1 = 384 then
                st.2.2.2.2.2.2.2.2.2.2.2.1
              else
                if p1 = 1472 then
                  st.2.2.2.2.2.2.2.2.2.2.2.2.1
                else
                  st.2.2.2.2.2.2.2.2.2.2.2.2.2.1
set_option maxHeartbeats 4000000 in
set_option maxRecDepth 100000 in
theorem cr_controlOf (l : Launch) (dC : Nat → ClassId) (dI : Nat → Nat → Nat) (cI h0 qme0 qre1 tN tB : Nat) (sz : Nat) (st : RS) (p1 : Int32)  : Met l yX1_controlOf (.code yX1_controlOf cX1_controlOf 2 (some .int) :: gBIG) ({ frames := 0, cells := 0, slots := 0, locals := 0 }) (va_Pc [.ref h0, .int p1] (rPre dC dI cI h0 qme0 qre1 tN tB sz st)) (QcRead (r_controlOf st p1)) 0 0 (fun _ => False) := by
  refine Met.ofW (cc := cX1_controlOf) (maxL := 2) (ret := (some .int)) (by decide) rfl ?_
  intro p e s m args below meth c s₁ B hml hv
  obtain ⟨rfl, hsz, hP, hK, hD0, hZ⟩ := hv
  have hx := B.exec
  have hb := B.bytes
  have hr := B.returns
  have hts : ∀ w ∈ gBIG, w.before _ s = true := fun w h => atoms_spec (ws := (.code yX1_controlOf cX1_controlOf 2 (some .int) :: gBIG)) B.pre w (List.mem_cons_of_mem _ h)
  have hown : s.vm.findClass "PagedHartModel" = some m.cls := findClass_of_methodNamed B.named
  have hlocks := B.notSynchronized
  subst hsz
  have hD : va_D (rA h0 qme0 qre1 s.heap.size) (rW cI h0 qme0 qre1 st) := rD hD0
  have hS : va_S (rA h0 qme0 qre1 s.heap.size) s.heap s.heap [] := va_S.rf
  have hP : va_P (dC, dI) vwCl (rW cI h0 qme0 qre1 st) s.heap := hP
  have hl := lv_entry ([.ref h0, .int p1]) (n := 2) (Nat.le_of_ble_eq_true rfl)
  rw [lg_entry_eq]
  generalize (lg_sl ([.ref h0, .int p1]) ++ List.replicate (2 - (lg_sl ([.ref h0, .int p1])).length) Slot.unset).toArray = ls at hl ⊢
  refine jgo (P := fun H locs => va_P (dC, dI) vwCl (rW cI h0 qme0 qre1 st) H ∧ va_S (rA h0 qme0 qre1 s.heap.size) s.heap H locs ∧ H = s.heap ∧ ∀ q ∈ locs, False) ⟨hP, hS, rfl, fun q h => by cases h⟩ (fun H locs hPS => ?_)
  obtain ⟨hP, hS, hHe, hN⟩ := hPS
  have hl : lv_has ls 2 [(0, .ref h0), (1, .int p1)] := hl
  refine lv_iload_n hx hb dX1_controlOf_0 rfl (lv_at hl 1 rfl) ?_
  by_cases c1 : p1 = 256
  · refine lv_lookup (tgt := 76) (off := 75) hx hb dX1_controlOf_1 (by decide) (by rw [c1]; decide) (by decide) ?_
    refine lv_aload_n hx hb dX1_controlOf_76 rfl (lv_at hl 0 rfl) ?_
    refine va_get (D := (dC, dI)) (ci := 1) (v := .int st.2.2.2.2.2.1) (C := "PagedHartModel") (T := TX1) (N := 18) hx hb hts mU1 hown hK hP 0 rfl rfl 5 (by decide) (hts _ mF_1_50) (fun _ h9 => h9) rfl dX1_controlOf_77 ?_
    exact W.iret (v := st.2.2.2.2.2.1) hx hb hr (fun t ht hW => ⟨jq (by exact (((if_pos c1).trans rfl)).symm), ht.trans hHe⟩) (fun q h => (hN q h).elim) dX1_controlOf_80
  by_cases c2 : p1 = 261
  · refine lv_lookup (tgt := 81) (off := 80) hx hb dX1_controlOf_1 (by decide) (by rw [c2]; decide) (by decide) ?_
    refine lv_aload_n hx hb dX1_controlOf_81 rfl (lv_at hl 0 rfl) ?_
    refine va_get (D := (dC, dI)) (ci := 1) (v := .int st.2.2.2.2.2.2.1) (C := "PagedHartModel") (T := TX1) (N := 18) hx hb hts mU1 hown hK hP 0 rfl rfl 6 (by decide) (hts _ mF_1_87) (fun _ h9 => h9) rfl dX1_controlOf_82 ?_
    exact W.iret (v := st.2.2.2.2.2.2.1) hx hb hr (fun t ht hW => ⟨jq (by exact (((if_neg c1).trans ((if_pos c2).trans rfl))).symm), ht.trans hHe⟩) (fun q h => (hN q h).elim) dX1_controlOf_85
  by_cases c3 : p1 = 320
  · refine lv_lookup (tgt := 86) (off := 85) hx hb dX1_controlOf_1 (by decide) (by rw [c3]; decide) (by decide) ?_
    refine lv_aload_n hx hb dX1_controlOf_86 rfl (lv_at hl 0 rfl) ?_
    refine va_get (D := (dC, dI)) (ci := 1) (v := .int st.2.2.2.2.2.2.2.1) (C := "PagedHartModel") (T := TX1) (N := 18) hx hb hts mU1 hown hK hP 0 rfl rfl 7 (by decide) (hts _ mF_1_178) (fun _ h9 => h9) rfl dX1_controlOf_87 ?_
    exact W.iret (v := st.2.2.2.2.2.2.2.1) hx hb hr (fun t ht hW => ⟨jq (by exact (((if_neg c1).trans ((if_neg c2).trans ((if_pos c3).trans rfl)))).symm), ht.trans hHe⟩) (fun q h => (hN q h).elim) dX1_controlOf_90
  by_cases c4 : p1 = 321
  · refine lv_lookup (tgt := 91) (off := 90) hx hb dX1_controlOf_1 (by decide) (by rw [c4]; decide) (by decide) ?_
    refine lv_aload_n hx hb dX1_controlOf_91 rfl (lv_at hl 0 rfl) ?_
    refine va_get (D := (dC, dI)) (ci := 1) (v := .int st.2.2.2.2.2.2.2.2.1) (C := "PagedHartModel") (T := TX1) (N := 18) hx hb hts mU1 hown hK hP 0 rfl rfl 8 (by decide) (hts _ mF_1_78) (fun _ h9 => h9) rfl dX1_controlOf_92 ?_
    exact W.iret (v := st.2.2.2.2.2.2.2.2.1) hx hb hr (fun t ht hW => ⟨jq (by exact (((if_neg c1).trans ((if_neg c2).trans ((if_neg c3).trans ((if_pos c4).trans rfl))))).symm), ht.trans hHe⟩) (fun q h => (hN q h).elim) dX1_controlOf_95
  by_cases c5 : p1 = 322
  · refine lv_lookup (tgt := 96) (off := 95) hx hb dX1_controlOf_1 (by decide) (by rw [c5]; decide) (by decide) ?_
    refine lv_aload_n hx hb dX1_controlOf_96 rfl (lv_at hl 0 rfl) ?_
    refine va_get (D := (dC, dI)) (ci := 1) (v := .int st.2.2.2.2.2.2.2.2.2.1) (C := "PagedHartModel") (T := TX1) (N := 18) hx hb hts mU1 hown hK hP 0 rfl rfl 9 (by decide) (hts _ mF_1_81) (fun _ h9 => h9) rfl dX1_controlOf_97 ?_
    exact W.iret (v := st.2.2.2.2.2.2.2.2.2.1) hx hb hr (fun t ht hW => ⟨jq (by exact (((if_neg c1).trans ((if_neg c2).trans ((if_neg c3).trans ((if_neg c4).trans ((if_pos c5).trans rfl)))))).symm), ht.trans hHe⟩) (fun q h => (hN q h).elim) dX1_controlOf_100
  by_cases c6 : p1 = 323
  · refine lv_lookup (tgt := 101) (off := 100) hx hb dX1_controlOf_1 (by decide) (by rw [c6]; decide) (by decide) ?_
    refine lv_aload_n hx hb dX1_controlOf_101 rfl (lv_at hl 0 rfl) ?_
    refine va_get (D := (dC, dI)) (ci := 1) (v := .int st.2.2.2.2.2.2.2.2.2.2.1) (C := "PagedHartModel") (T := TX1) (N := 18) hx hb hts mU1 hown hK hP 0 rfl rfl 10 (by decide) (hts _ mF_1_84) (fun _ h9 => h9) rfl dX1_controlOf_102 ?_
    exact W.iret (v := st.2.2.2.2.2.2.2.2.2.2.1) hx hb hr (fun t ht hW => ⟨jq (by exact (((if_neg c1).trans ((if_neg c2).trans ((if_neg c3).trans ((if_neg c4).trans ((if_neg c5).trans ((if_pos c6).trans rfl))))))).symm), ht.trans hHe⟩) (fun q h => (hN q h).elim) dX1_controlOf_105
  by_cases c7 : p1 = 384
  · refine lv_lookup (tgt := 106) (off := 105) hx hb dX1_controlOf_1 (by decide) (by rw [c7]; decide) (by decide) ?_
    refine lv_aload_n hx hb dX1_controlOf_106 rfl (lv_at hl 0 rfl) ?_
    refine va_get (D := (dC, dI)) (ci := 1) (v := .int st.2.2.2.2.2.2.2.2.2.2.2.1) (C := "PagedHartModel") (T := TX1) (N := 18) hx hb hts mU1 hown hK hP 0 rfl rfl 11 (by decide) (hts _ mF_1_57) (fun _ h9 => h9) rfl dX1_controlOf_107 ?_
    exact W.iret (v := st.2.2.2.2.2.2.2.2.2.2.2.1) hx hb hr (fun t ht hW => ⟨jq (by exact (((if_neg c1).trans ((if_neg c2).trans ((if_neg c3).trans ((if_neg c4).trans ((if_neg c5).trans ((if_neg c6).trans ((if_pos c7).trans rfl)))))))).symm), ht.trans hHe⟩) (fun q h => (hN q h).elim) dX1_controlOf_110
  by_cases c8 : p1 = 1472
  · refine lv_lookup (tgt := 111) (off := 110) hx hb dX1_controlOf_1 (by decide) (by rw [c8]; decide) (by decide) ?_
    refine lv_aload_n hx hb dX1_controlOf_111 rfl (lv_at hl 0 rfl) ?_
    refine va_get (D := (dC, dI)) (ci := 1) (v := .int st.2.2.2.2.2.2.2.2.2.2.2.2.1) (C := "PagedHartModel") (T := TX1) (N := 18) hx hb hts mU1 hown hK hP 0 rfl rfl 12 (by decide) (hts _ mF_1_21) (fun _ h9 => h9) rfl dX1_controlOf_112 ?_
    exact W.iret (v := st.2.2.2.2.2.2.2.2.2.2.2.2.1) hx hb hr (fun t ht hW => ⟨jq (by exact (((if_neg c1).trans ((if_neg c2).trans ((if_neg c3).trans ((if_neg c4).trans ((if_neg c5).trans ((if_neg c6).trans ((if_neg c7).trans ((if_pos c8).trans rfl))))))))).symm), ht.trans hHe⟩) (fun q h => (hN q h).elim) dX1_controlOf_115
  refine lv_lookup (tgt := 116) (off := 115) hx hb dX1_controlOf_1 (by decide) ((lv_osw (k := 256) c1 (by decide)).trans ((lv_osw (k := 261) c2 (by decide)).trans ((lv_osw (k := 320) c3 (by decide)).trans ((lv_osw (k := 321) c4 (by decide)).trans ((lv_osw (k := 322) c5 (by decide)).trans ((lv_osw (k := 323) c6 (by decide)).trans ((lv_osw (k := 384) c7 (by decide)).trans ((lv_osw (k := 1472) c8 (by decide)).trans rfl)))))))) (by decide) ?_
  refine lv_aload_n hx hb dX1_controlOf_116 rfl (lv_at hl 0 rfl) ?_
  refine va_get (D := (dC, dI)) (ci := 1) (v := .int st.2.2.2.2.2.2.2.2.2.2.2.2.2.1) (C := "PagedHartModel") (T := TX1) (N := 18) hx hb hts mU1 hown hK hP 0 rfl rfl 13 (by decide) (hts _ mF_1_24) (fun _ h9 => h9) rfl dX1_controlOf_117 ?_
  exact W.iret (v := st.2.2.2.2.2.2.2.2.2.2.2.2.2.1) hx hb hr (fun t ht hW => ⟨jq (by exact (((if_neg c1).trans ((if_neg c2).trans ((if_neg c3).trans ((if_neg c4).trans ((if_neg c5).trans ((if_neg c6).trans ((if_neg c7).trans ((if_neg c8).trans rfl))))))))).symm), ht.trans hHe⟩) (fun q h => (hN q h).elim) dX1_controlOf_120
