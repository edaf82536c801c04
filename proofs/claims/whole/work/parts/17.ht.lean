def h_go : Nat → Int32 → Int32 → HS → Int32 × HS
  | 0, _, k, u => (k, u)
  | n + 1, most, k, u => if most ≤ k then (k, u) else if u.2.2.2.2.2 = 0 then h_go n most (k + 1) (h_step u) else (k, u)
set_option maxHeartbeats 4000000 in
set_option maxRecDepth 100000 in
theorem h_runloop {p : Program} {l : Launch} {e : Env} {R : Room} {s : State} {m : MethodId} {args : Array Value} {below : List Frame} {meth : Method} {c : Code} {dC : Nat → ClassId} {dI : Nat → Nat → Nat} {cI h0 qme0 qre1 qco2 tN tB : Nat} {XC : String → State → State → Prop}
    (hx : p.tables.exec = Jvm.exec) (hb : c.code = cX0_run) (hml : c.maxLocals = 3) (hown : s.vm.findClass "PagedHart" = some m.cls) (hts : ∀ w ∈ gBIG, w.before args s = true) (hr : meth.sig.returnType = some .int) (hlocks : meth.locks = false)
    (hK : va_K (dC, dI) vwCl [(cI, .int)] s) (hZ : gZ tN tB (gA h0 qme0 qre1 qco2 s.heap.size) s s.heap) {f : Option (Int32 × HS)} {most : Int32} (h1 : ¬ most < 0) (h2 : most ≤ (20000 : Int32)) (hRf : 6 ≤ R.frames) (hRl : 144 ≤ R.locals) {u : HS} {H : Heap} {locs : List Loc} {ls : Array Slot} (hf : some (h_go 20001 most (0 : Int32) u) = f)
    (hP : va_P (dC, dI) vwCl (gW cI h0 qme0 qre1 qco2 u) H) (hD : va_D (gA h0 qme0 qre1 qco2 s.heap.size) (gW cI h0 qme0 qre1 qco2 u)) (hS : va_S (gA h0 qme0 qre1 qco2 s.heap.size) s.heap H locs) (hl : lv_has ls 3 [(2, .int 0), (0, .ref h0), (1, .int most)]) :
    W p l e R s m args below meth c H locs 0 0 (vx_MQ below (va_Qi (fun r v => some (r, v) = f) (gB dC dI cI h0 qme0 qre1 qco2 (gA h0 qme0 qre1 qco2 s.heap.size)) (gA h0 qme0 qre1 qco2 s.heap.size)) XC args s 1 6 (gA h0 qme0 qre1 qco2 s.heap.size)) (F0 m 34 ls []) := by
  obtain ⟨j, hj, rfl⟩ := nI_of2 (M := 20000) (n := 20000) rfl h1 h2
  have key : ∀ (n k : Nat) (u : HS) (H : Heap) (locs : List Loc) (ls : Array Slot), k ≤ j → j < k + n → va_P (dC, dI) vwCl (gW cI h0 qme0 qre1 qco2 u) H → va_D (gA h0 qme0 qre1 qco2 s.heap.size) (gW cI h0 qme0 qre1 qco2 u) → va_S (gA h0 qme0 qre1 qco2 s.heap.size) s.heap H locs → lv_has ls 3 [(2, .int (nI k)), (0, .ref h0), (1, .int (nI j))] → some (h_go n (nI j) (nI k) u) = f → W p l e R s m args below meth c H locs 0 0 (vx_MQ below (va_Qi (fun r v => some (r, v) = f) (gB dC dI cI h0 qme0 qre1 qco2 (gA h0 qme0 qre1 qco2 s.heap.size)) (gA h0 qme0 qre1 qco2 s.heap.size)) XC args s 1 6 (gA h0 qme0 qre1 qco2 s.heap.size)) (F0 m 34 ls []) := by
    intro n
    induction n with
    | zero => intro k u H locs ls q1 q2; exact absurd q2 (by omega)
    | succ n ih =>
      intro k u H locs ls q1 q2 hP hD hS hl hf
      refine lv_iload_n hx hb dX0_run_34 rfl (lv_at hl 0 rfl) ?_
      refine lv_iload_n hx hb dX0_run_35 rfl (lv_at hl 2 rfl) ?_
      refine lv_icmp_ge (tgt := 56) hx hb dX0_run_36 (by decide) (fun c1 => ?_) (fun c1 => ?_)
      · refine lv_iload_n hx hb dX0_run_56 rfl (lv_at hl 0 rfl) ?_
        exact gIretX (v := nI k) (u := u) hx hb hr hlocks (by rw [← hf, h_go, if_pos c1]) hK hP hD hS dX0_run_57
      · refine lv_aload_n hx hb dX0_run_39 rfl (lv_at hl 1 rfl) ?_
        refine va_get (D := (dC, dI)) (ci := 0) (v := .int u.2.2.2.2.2) (C := "PagedHart") (T := TX0) (N := 6) hx hb hts mU0 hown hK hP 0 rfl rfl 5 (by decide) (hts _ mF_0_27) (fun _ h9 => h9) rfl dX0_run_40 ?_
        refine lv_if_ne (tgt := 56) hx hb dX0_run_43 (by decide) (fun c2 => ?_) (fun c2 => ?_)
        · refine lv_iload_n hx hb dX0_run_56 rfl (lv_at hl 0 rfl) ?_
          exact gIretX (v := nI k) (u := u) hx hb hr hlocks (by rw [← hf, h_go, if_neg c1, if_neg c2]) hK hP hD hS dX0_run_57
        · have hlt : k < j := Nat.lt_of_not_le (fun q => c1 (nI_le q (by omega)))
          refine lv_aload_n hx hb dX0_run_46 rfl (lv_at hl 1 rfl) ?_
          refine gMv (As := []) (rest := []) (f := h_step u) ⟨hx, hb, hml, hown, hts⟩ (ch_step l dC dI cI h0 qme0 qre1 qco2 tN tB H.size u) (cwV 0 hts (gV mL_0_38 mI_0_step mX_0_step mN_0 mB_0_step) rfl rfl rfl (by decide +kernel) ⟨hRf, hRl⟩) hK hP hD hS hZ rfl hl.1 rfl (Nat.le_of_ble_eq_true rfl) dX0_run_47 ⟨Nat.zero_le _, Nat.zero_le _⟩ (fun z ez H locs hP hD hS => ?_)
          refine lv_iinc (v := nI (k + 1)) (lv' := [(2, .int (nI (k + 1))), (0, .ref h0), (1, .int (nI j))]) hx hb dX0_run_50 hl (k := 0) rfl (by rw [lit1]; exact nI_1 k) (by decide) rfl (fun ls hl => ?_)
          refine lv_goto (tgt := 34) hx hb dX0_run_53 (by decide) ?_
          refine ih (k + 1) z H locs ls hlt (by omega) hP hD hS hl ?_
          rw [← hf, h_go, if_neg c1, if_pos c2, nI_1, ez]
  exact key 20001 0 u H locs ls (Nat.zero_le _) (by omega) hP hD hS hl hf
def h_run (st : HS) (p1 : Int32) : Option (Int32 × HS) :=
  if p1 < 0 then
    none
  else
    if p1 ≤ (20000 : Int32) then
      if p1 = 0 then
        some ((0 : Int32), st)
      else
        some (h_go 20001 p1 (0 : Int32) (st.1, st.2.1, st.2.2.1, st.2.2.2.1, st.2.2.2.2.1, (0 : Int32)))
    else
      none
set_option maxHeartbeats 4000000 in
set_option maxRecDepth 100000 in
theorem ch_run (l : Launch) (dC : Nat → ClassId) (dI : Nat → Nat → Nat) (cI h0 qme0 qre1 qco2 tN tB : Nat) (hnt : l.stackTraces = false) (sa : Nat) (sz : Nat) (st : HS) (p1 : Int32)  : vx_Met l yX0_run (.code yX0_run cX0_run 3 (some .int) :: gBIG) ({ frames := 6, cells := 1, slots := 6, locals := 144 }) (va_Pc [.ref h0, .int p1] (gPreX "java/lang/IllegalArgumentException" "steps are 0 to 20000" 33 sa dC dI cI h0 qme0 qre1 qco2 tN tB sz st)) (va_Qi (fun r v => some (r, v) = h_run st p1) (gB dC dI cI h0 qme0 qre1 qco2 (gA h0 qme0 qre1 qco2 sz)) (gA h0 qme0 qre1 qco2 sz)) (vx_X (fun v : HS => v = st ∧ none = h_run st p1) (fun E v t => E = "java/lang/IllegalArgumentException" ∧ gB dC dI cI h0 qme0 qre1 qco2 (gA h0 qme0 qre1 qco2 sz) v t) (gA h0 qme0 qre1 qco2 sz)) 1 6 (gA h0 qme0 qre1 qco2 sz) := by
  refine vx_ofW (cc := cX0_run) (maxL := 3) (ret := (some .int)) (by decide) rfl ?_
  intro p e s m args below meth c s₁ B hml htb hv
  obtain ⟨rfl, ⟨hsz, hP, hK, hD0, hZ⟩, hX⟩ := hv
  have hx := B.exec
  have hb := B.bytes
  have hr := B.returns
  have hts : ∀ w ∈ gBIG, w.before _ s = true := fun w h => atoms_spec (ws := (.code yX0_run cX0_run 3 (some .int) :: gBIG)) B.pre w (List.mem_cons_of_mem _ h)
  have hown : s.vm.findClass "PagedHart" = some m.cls := findClass_of_methodNamed B.named
  have hlocks := B.notSynchronized
  subst hsz
  have hD : va_D (gA h0 qme0 qre1 qco2 s.heap.size) (gW cI h0 qme0 qre1 qco2 st) := gD hD0
  have hS : va_S (gA h0 qme0 qre1 qco2 s.heap.size) s.heap s.heap [] := va_S.rf
  have hP : va_P (dC, dI) vwCl (gW cI h0 qme0 qre1 qco2 st) s.heap := hP
  have hl := lv_entry ([.ref h0, .int p1]) (n := 3) (Nat.le_of_ble_eq_true rfl)
  rw [lg_entry_eq]
  generalize (lg_sl ([.ref h0, .int p1]) ++ List.replicate (3 - (lg_sl ([.ref h0, .int p1])).length) Slot.unset).toArray = ls at hl ⊢
  refine jgo (P := fun H locs => va_P (dC, dI) vwCl (gW cI h0 qme0 qre1 qco2 st) H ∧ va_S (gA h0 qme0 qre1 qco2 s.heap.size) s.heap H locs) ⟨hP, hS⟩ (fun H locs hPS => ?_)
  obtain ⟨hP, hS⟩ := hPS
  have hl : lv_has ls 3 [(0, .ref h0), (1, .int p1)] := hl
  refine lv_iload_n hx hb dX0_run_0 rfl (lv_at hl 1 rfl) ?_
  refine lv_if_lt (tgt := 11) hx hb dX0_run_1 (by decide) (fun c1 => ?_) (fun c1 => ?_)
  · exact gThrow (u := st) hnt (by decide) hts mK_0_31 mN_IllegalArgumentException xa_35 xg_35 hx hb hml hown hlocks htb hl.1 hK hP hD hS hX dX0_run_11 dX0_run_14 dX0_run_15 dX0_run_17 dX0_run_20 (Nat.le_of_ble_eq_true rfl) (Nat.le_of_ble_eq_true rfl) (Nat.le_of_ble_eq_true rfl) (Nat.le_of_ble_eq_true rfl) (by exact (((if_pos c1).trans rfl)).symm)
  · refine lv_iload_n hx hb dX0_run_4 rfl (lv_at hl 1 rfl) ?_
    refine lv_sipush (v := 20000) hx hb dX0_run_5 (by decide) ?_
    refine lv_icmp_le (tgt := 21) hx hb dX0_run_8 (by decide) (fun c2 => ?_) (fun c2 => ?_)
    · refine lv_iload_n hx hb dX0_run_21 rfl (lv_at hl 1 rfl) ?_
      refine lv_if_ne (tgt := 27) hx hb dX0_run_22 (by decide) (fun c3 => ?_) (fun c3 => ?_)
      · refine lv_aload_n hx hb dX0_run_27 rfl (lv_at hl 0 rfl) ?_
        refine lv_iconst (v := 0) hx hb dX0_run_28 (by decide) ?_
        refine va_put (D := (dC, dI)) (ci := 0) (v := .int 0) (ty := .boolean) (C := "PagedHart") (T := TX0) (N := 6) hx hb hts mU0 tyX0 tyX0_ok nmX0 hown hK hP hD hS 0 rfl rfl 5 (by decide) (hts _ mF_0_27) (fun _ h9 => h9) rfl (by decide +kernel) rfl rfl (Nat.le_of_ble_eq_true rfl) dX0_run_29 (fun H locs hP hD hS => ?_)
        have hP : va_P (dC, dI) vwCl (gW cI h0 qme0 qre1 qco2 (st.1, st.2.1, st.2.2.1, st.2.2.2.1, st.2.2.2.2.1, (0 : Int32))) H := hP
        have hD : va_D (gA h0 qme0 qre1 qco2 s.heap.size) (gW cI h0 qme0 qre1 qco2 (st.1, st.2.1, st.2.2.1, st.2.2.2.1, st.2.2.2.2.1, (0 : Int32))) := hD
        refine lv_iconst (v := 0) hx hb dX0_run_32 (by decide) ?_
        refine lv_istore_n (lv' := [(2, .int 0), (0, .ref h0), (1, .int p1)]) hx hb dX0_run_33 rfl hl (by decide) rfl (fun ls hl => ?_)
        exact h_runloop hx hb hml hown hts hr hlocks hK hZ (f := h_run st p1) (most := p1) c1 c2 (Nat.le_of_ble_eq_true rfl) (Nat.le_of_ble_eq_true rfl) (((if_neg c1).trans ((if_pos c2).trans ((if_neg c3).trans rfl)))).symm hP hD hS hl
      · refine lv_iconst (v := 0) hx hb dX0_run_25 (by decide) ?_
        exact gIretX (v := 0) (u := st) hx hb hr hlocks (by exact (((if_neg c1).trans ((if_pos c2).trans ((if_pos c3).trans rfl)))).symm) hK hP hD hS dX0_run_26
    · exact gThrow (u := st) hnt (by decide) hts mK_0_31 mN_IllegalArgumentException xa_35 xg_35 hx hb hml hown hlocks htb hl.1 hK hP hD hS hX dX0_run_11 dX0_run_14 dX0_run_15 dX0_run_17 dX0_run_20 (Nat.le_of_ble_eq_true rfl) (Nat.le_of_ble_eq_true rfl) (Nat.le_of_ble_eq_true rfl) (Nat.le_of_ble_eq_true rfl) (by exact (((if_neg c1).trans ((if_neg c2).trans rfl))).symm)

def h_peek (st : HS) (p1 : Int32) : Option (Int32 × HS) :=
  let x1 : Int32 := h_isWord p1
  if x1 = 0 then
    none
  else
    some ((st.1 (jush p1 (2 : Int32)).toNatClampNeg), st)
set_option maxHeartbeats 4000000 in
set_option maxRecDepth 100000 in
theorem ch_peek (l : Launch) (dC : Nat → ClassId) (dI : Nat → Nat → Nat) (cI h0 qme0 qre1 qco2 tN tB : Nat) (hnt : l.stackTraces = false) (sa : Nat) (sz : Nat) (st : HS) (p1 : Int32)  : vx_Met l yX0_peek (.code yX0_peek cX0_peek 2 (some .int) :: gBIG) ({ frames := 6, cells := 1, slots := 6, locals := 90 }) (va_Pc [.ref h0, .int p1] (gPreX "java/lang/IndexOutOfBoundsException" "no word of the memory" 47 sa dC dI cI h0 qme0 qre1 qco2 tN tB sz st)) (va_Qi (fun r v => some (r, v) = h_peek st p1) (gB dC dI cI h0 qme0 qre1 qco2 (gA h0 qme0 qre1 qco2 sz)) (gA h0 qme0 qre1 qco2 sz)) (vx_X (fun v : HS => v = st ∧ none = h_peek st p1) (fun E v t => E = "java/lang/IndexOutOfBoundsException" ∧ gB dC dI cI h0 qme0 qre1 qco2 (gA h0 qme0 qre1 qco2 sz) v t) (gA h0 qme0 qre1 qco2 sz)) 1 6 (gA h0 qme0 qre1 qco2 sz) := by
  refine vx_ofW (cc := cX0_peek) (maxL := 2) (ret := (some .int)) (by decide) rfl ?_
  intro p e s m args below meth c s₁ B hml htb hv
  obtain ⟨rfl, ⟨hsz, hP, hK, hD0, hZ⟩, hX⟩ := hv
  have hx := B.exec
  have hb := B.bytes
  have hr := B.returns
  have hts : ∀ w ∈ gBIG, w.before _ s = true := fun w h => atoms_spec (ws := (.code yX0_peek cX0_peek 2 (some .int) :: gBIG)) B.pre w (List.mem_cons_of_mem _ h)
  have hown : s.vm.findClass "PagedHart" = some m.cls := findClass_of_methodNamed B.named
  have hlocks := B.notSynchronized
  subst hsz
  have hD : va_D (gA h0 qme0 qre1 qco2 s.heap.size) (gW cI h0 qme0 qre1 qco2 st) := gD hD0
  have hS : va_S (gA h0 qme0 qre1 qco2 s.heap.size) s.heap s.heap [] := va_S.rf
  have hP : va_P (dC, dI) vwCl (gW cI h0 qme0 qre1 qco2 st) s.heap := hP
  have hl := lv_entry ([.ref h0, .int p1]) (n := 2) (Nat.le_of_ble_eq_true rfl)
  rw [lg_entry_eq]
  generalize (lg_sl ([.ref h0, .int p1]) ++ List.replicate (2 - (lg_sl ([.ref h0, .int p1])).length) Slot.unset).toArray = ls at hl ⊢
  refine jgo (P := fun H locs => va_P (dC, dI) vwCl (gW cI h0 qme0 qre1 qco2 st) H ∧ va_S (gA h0 qme0 qre1 qco2 s.heap.size) s.heap H locs) ⟨hP, hS⟩ (fun H locs hPS => ?_)
  obtain ⟨hP, hS⟩ := hPS
  have hl : lv_has ls 2 [(0, .ref h0), (1, .int p1)] := hl
  refine lv_iload_n hx hb dX0_peek_0 rfl (lv_at hl 1 rfl) ?_
  refine W.callR (W.runS (As := [.int p1]) (rest := []) ⟨hx, hb, hml, hown, hts⟩ (ch_isWord l p1) (cwS 1 hts (gS mL_0_41 mS_0_isWord mN_0 mB_0_isWord) rfl rfl rfl (by decide +kernel) ⟨Nat.le_of_ble_eq_true rfl, Nat.le_of_ble_eq_true rfl⟩) ⟨jblind, fun _ _ _ => ⟨rfl, trivial⟩⟩ rfl rfl hl.1 rfl (lv_room (Nat.le_of_ble_eq_true rfl)) dX0_peek_1 ⟨Nat.zero_le _, Nat.zero_le _⟩) ?_
  refine W.eq (g2 := F0 m 4 ls (.int (h_isWord p1) :: [])) rfl ?_
  refine lv_topi (fun x1 ex1 => ?_)
  refine lv_if_ne (tgt := 17) hx hb dX0_peek_4 (by decide) (fun c2 => ?_) (fun c2 => ?_)
  · refine lv_aload_n hx hb dX0_peek_17 rfl (lv_at hl 0 rfl) ?_
    refine va_get (D := (dC, dI)) (ci := 0) (v := .ref qme0) (C := "PagedHart") (T := TX0) (N := 6) hx hb hts mU0 hown hK hP 0 rfl rfl 0 (by decide) (hts _ mF_0_10) (fun _ h9 => h9) rfl dX0_peek_18 ?_
    refine lv_iload_n hx hb dX0_peek_21 rfl (lv_at hl 1 rfl) ?_
    refine lv_iconst (v := 2) hx hb dX0_peek_22 (by decide) ?_
    refine lv_iushr (v := jush p1 (2 : Int32)) hx hb dX0_peek_23 rfl ?_
    refine va_iald (D := (dC, dI)) hx hb hK hP 1 0 rfl rfl (h_inW (by rw [← ex1]; exact c2)) dX0_peek_24 ?_
    exact gIretX (v := st.1 (jush p1 (2 : Int32)).toNatClampNeg) (u := st) hx hb hr hlocks (by subst ex1; exact (((if_neg c2).trans rfl)).symm) hK hP hD hS dX0_peek_25
  · exact gThrow (u := st) hnt (by decide) hts mK_0_45 mN_IndexOutOfBoundsException xa_49 xg_49 hx hb hml hown hlocks htb hl.1 hK hP hD hS hX dX0_peek_7 dX0_peek_10 dX0_peek_11 dX0_peek_13 dX0_peek_16 (Nat.le_of_ble_eq_true rfl) (Nat.le_of_ble_eq_true rfl) (Nat.le_of_ble_eq_true rfl) (Nat.le_of_ble_eq_true rfl) (by subst ex1; exact (((if_pos c2).trans rfl)).symm)

def h_poke (st : HS) (p1 : Int32) (p2 : Int32) : Option HS :=
  let x1 : Int32 := h_isWord p1
  if x1 = 0 then
    none
  else
    some (upd st.1 (jush p1 (2 : Int32)).toNatClampNeg p2, st.2.1, st.2.2.1, st.2.2.2.1, st.2.2.2.2.1, st.2.2.2.2.2)
set_option maxHeartbeats 4000000 in
set_option maxRecDepth 100000 in
theorem ch_poke (l : Launch) (dC : Nat → ClassId) (dI : Nat → Nat → Nat) (cI h0 qme0 qre1 qco2 tN tB : Nat) (hnt : l.stackTraces = false) (sa : Nat) (sz : Nat) (st : HS) (p1 : Int32) (p2 : Int32)  : vx_Met l yX0_poke (.code yX0_poke cX0_poke 3 none :: gBIG) ({ frames := 6, cells := 1, slots := 6, locals := 90 }) (va_Pc [.ref h0, .int p1, .int p2] (gPreX "java/lang/IndexOutOfBoundsException" "no word of the memory" 47 sa dC dI cI h0 qme0 qre1 qco2 tN tB sz st)) (va_Qv (fun v => some v = h_poke st p1 p2) (gB dC dI cI h0 qme0 qre1 qco2 (gA h0 qme0 qre1 qco2 sz)) (gA h0 qme0 qre1 qco2 sz)) (vx_X (fun v : HS => v = st ∧ none = h_poke st p1 p2) (fun E v t => E = "java/lang/IndexOutOfBoundsException" ∧ gB dC dI cI h0 qme0 qre1 qco2 (gA h0 qme0 qre1 qco2 sz) v t) (gA h0 qme0 qre1 qco2 sz)) 1 6 (gA h0 qme0 qre1 qco2 sz) := by
  refine vx_ofW (cc := cX0_poke) (maxL := 3) (ret := none) (by decide) rfl ?_
  intro p e s m args below meth c s₁ B hml htb hv
  obtain ⟨rfl, ⟨hsz, hP, hK, hD0, hZ⟩, hX⟩ := hv
  have hx := B.exec
  have hb := B.bytes
  have hr := B.returns
  have hts : ∀ w ∈ gBIG, w.before _ s = true := fun w h => atoms_spec (ws := (.code yX0_poke cX0_poke 3 none :: gBIG)) B.pre w (List.mem_cons_of_mem _ h)
  have hown : s.vm.findClass "PagedHart" = some m.cls := findClass_of_methodNamed B.named
  have hlocks := B.notSynchronized
  subst hsz
  have hD : va_D (gA h0 qme0 qre1 qco2 s.heap.size) (gW cI h0 qme0 qre1 qco2 st) := gD hD0
  have hS : va_S (gA h0 qme0 qre1 qco2 s.heap.size) s.heap s.heap [] := va_S.rf
  have hP : va_P (dC, dI) vwCl (gW cI h0 qme0 qre1 qco2 st) s.heap := hP
  have hl := lv_entry ([.ref h0, .int p1, .int p2]) (n := 3) (Nat.le_of_ble_eq_true rfl)
  rw [lg_entry_eq]
  generalize (lg_sl ([.ref h0, .int p1, .int p2]) ++ List.replicate (3 - (lg_sl ([.ref h0, .int p1, .int p2])).length) Slot.unset).toArray = ls at hl ⊢
  refine jgo (P := fun H locs => va_P (dC, dI) vwCl (gW cI h0 qme0 qre1 qco2 st) H ∧ va_S (gA h0 qme0 qre1 qco2 s.heap.size) s.heap H locs) ⟨hP, hS⟩ (fun H locs hPS => ?_)
  obtain ⟨hP, hS⟩ := hPS
  have hl : lv_has ls 3 [(0, .ref h0), (1, .int p1), (2, .int p2)] := hl
  refine lv_iload_n hx hb dX0_poke_0 rfl (lv_at hl 1 rfl) ?_
  refine W.callR (W.runS (As := [.int p1]) (rest := []) ⟨hx, hb, hml, hown, hts⟩ (ch_isWord l p1) (cwS 1 hts (gS mL_0_41 mS_0_isWord mN_0 mB_0_isWord) rfl rfl rfl (by decide +kernel) ⟨Nat.le_of_ble_eq_true rfl, Nat.le_of_ble_eq_true rfl⟩) ⟨jblind, fun _ _ _ => ⟨rfl, trivial⟩⟩ rfl rfl hl.1 rfl (lv_room (Nat.le_of_ble_eq_true rfl)) dX0_poke_1 ⟨Nat.zero_le _, Nat.zero_le _⟩) ?_
  refine W.eq (g2 := F0 m 4 ls (.int (h_isWord p1) :: [])) rfl ?_
  refine lv_topi (fun x1 ex1 => ?_)
  refine lv_if_ne (tgt := 17) hx hb dX0_poke_4 (by decide) (fun c2 => ?_) (fun c2 => ?_)
  · refine lv_aload_n hx hb dX0_poke_17 rfl (lv_at hl 0 rfl) ?_
    refine va_get (D := (dC, dI)) (ci := 0) (v := .ref qme0) (C := "PagedHart") (T := TX0) (N := 6) hx hb hts mU0 hown hK hP 0 rfl rfl 0 (by decide) (hts _ mF_0_10) (fun _ h9 => h9) rfl dX0_poke_18 ?_
    refine lv_iload_n hx hb dX0_poke_21 rfl (lv_at hl 1 rfl) ?_
    refine lv_iconst (v := 2) hx hb dX0_poke_22 (by decide) ?_
    refine lv_iushr (v := jush p1 (2 : Int32)) hx hb dX0_poke_23 rfl ?_
    refine lv_iload_n hx hb dX0_poke_24 rfl (lv_at hl 2 rfl) ?_
    refine va_iast (D := (dC, dI)) hx hb hK hP hD hS 1 0 rfl rfl (h_inW (by rw [← ex1]; exact c2)) dX0_poke_25 (fun H locs hP hD hS => ?_)
    have hP : va_P (dC, dI) vwCl (gW cI h0 qme0 qre1 qco2 (upd st.1 (jush p1 (2 : Int32)).toNatClampNeg p2, st.2.1, st.2.2.1, st.2.2.2.1, st.2.2.2.2.1, st.2.2.2.2.2)) H := hP
    have hD : va_D (gA h0 qme0 qre1 qco2 s.heap.size) (gW cI h0 qme0 qre1 qco2 (upd st.1 (jush p1 (2 : Int32)).toNatClampNeg p2, st.2.1, st.2.2.1, st.2.2.2.1, st.2.2.2.2.1, st.2.2.2.2.2)) := hD
    exact gVretX (u := (upd st.1 (jush p1 (2 : Int32)).toNatClampNeg p2, st.2.1, st.2.2.1, st.2.2.2.1, st.2.2.2.2.1, st.2.2.2.2.2)) hx hb hr hlocks (by subst ex1; exact (((if_neg c2).trans rfl)).symm) hK hP hD hS dX0_poke_26
  · exact gThrow (u := st) hnt (by decide) hts mK_0_45 mN_IndexOutOfBoundsException xa_49 xg_49 hx hb hml hown hlocks htb hl.1 hK hP hD hS hX dX0_poke_7 dX0_poke_10 dX0_poke_11 dX0_poke_13 dX0_poke_16 (Nat.le_of_ble_eq_true rfl) (Nat.le_of_ble_eq_true rfl) (Nat.le_of_ble_eq_true rfl) (Nat.le_of_ble_eq_true rfl) (by subst ex1; exact (((if_pos c2).trans rfl)).symm)

def h_pokeFour (st : HS) (p1 : Int32) (p2 : Int32) (p3 : Int32) (p4 : Int32) (p5 : Int32) : Option HS :=
  let x1 : Int32 := h_isWord p1
  if x1 = 0 then
    none
  else
    let x3 : Int32 := h_isWord (p1 + (12 : Int32))
    if x3 = 0 then
      none
    else
      let x5 : Int32 := jush p1 (2 : Int32)
      some (upd (upd (upd (upd st.1 x5.toNatClampNeg p2) (x5 + (1 : Int32)).toNatClampNeg p3) (x5 + (2 : Int32)).toNatClampNeg p4) (x5 + (3 : Int32)).toNatClampNeg p5, st.2.1, st.2.2.1, st.2.2.2.1, st.2.2.2.2.1, st.2.2.2.2.2)
set_option maxHeartbeats 4000000 in
set_option maxRecDepth 100000 in
theorem ch_pokeFour (l : Launch) (dC : Nat → ClassId) (dI : Nat → Nat → Nat) (cI h0 qme0 qre1 qco2 tN tB : Nat) (hnt : l.stackTraces = false) (sa : Nat) (sz : Nat) (st : HS) (p1 : Int32) (p2 : Int32) (p3 : Int32) (p4 : Int32) (p5 : Int32)  : vx_Met l yX0_pokeFour (.code yX0_pokeFour cX0_pokeFour 7 none :: gBIG) ({ frames := 6, cells := 1, slots := 6, locals := 90 }) (va_Pc [.ref h0, .int p1, .int p2, .int p3, .int p4, .int p5] (gPreX "java/lang/IndexOutOfBoundsException" "not four words of the memory" 50 sa dC dI cI h0 qme0 qre1 qco2 tN tB sz st)) (va_Qv (fun v => some v = h_pokeFour st p1 p2 p3 p4 p5) (gB dC dI cI h0 qme0 qre1 qco2 (gA h0 qme0 qre1 qco2 sz)) (gA h0 qme0 qre1 qco2 sz)) (vx_X (fun v : HS => v = st ∧ none = h_pokeFour st p1 p2 p3 p4 p5) (fun E v t => E = "java/lang/IndexOutOfBoundsException" ∧ gB dC dI cI h0 qme0 qre1 qco2 (gA h0 qme0 qre1 qco2 sz) v t) (gA h0 qme0 qre1 qco2 sz)) 1 6 (gA h0 qme0 qre1 qco2 sz) := by
  refine vx_ofW (cc := cX0_pokeFour) (maxL := 7) (ret := none) (by decide) rfl ?_
  intro p e s m args below meth c s₁ B hml htb hv
  obtain ⟨rfl, ⟨hsz, hP, hK, hD0, hZ⟩, hX⟩ := hv
  have hx := B.exec
  have hb := B.bytes
  have hr := B.returns
  have hts : ∀ w ∈ gBIG, w.before _ s = true := fun w h => atoms_spec (ws := (.code yX0_pokeFour cX0_pokeFour 7 none :: gBIG)) B.pre w (List.mem_cons_of_mem _ h)
  have hown : s.vm.findClass "PagedHart" = some m.cls := findClass_of_methodNamed B.named
  have hlocks := B.notSynchronized
  subst hsz
  have hD : va_D (gA h0 qme0 qre1 qco2 s.heap.size) (gW cI h0 qme0 qre1 qco2 st) := gD hD0
  have hS : va_S (gA h0 qme0 qre1 qco2 s.heap.size) s.heap s.heap [] := va_S.rf
  have hP : va_P (dC, dI) vwCl (gW cI h0 qme0 qre1 qco2 st) s.heap := hP
  have hl := lv_entry ([.ref h0, .int p1, .int p2, .int p3, .int p4, .int p5]) (n := 7) (Nat.le_of_ble_eq_true rfl)
  rw [lg_entry_eq]
  generalize (lg_sl ([.ref h0, .int p1, .int p2, .int p3, .int p4, .int p5]) ++ List.replicate (7 - (lg_sl ([.ref h0, .int p1, .int p2, .int p3, .int p4, .int p5])).length) Slot.unset).toArray = ls at hl ⊢
  refine jgo (P := fun H locs => va_P (dC, dI) vwCl (gW cI h0 qme0 qre1 qco2 st) H ∧ va_S (gA h0 qme0 qre1 qco2 s.heap.size) s.heap H locs) ⟨hP, hS⟩ (fun H locs hPS => ?_)
  obtain ⟨hP, hS⟩ := hPS
  have hl : lv_has ls 7 [(0, .ref h0), (1, .int p1), (2, .int p2), (3, .int p3), (4, .int p4), (5, .int p5)] := hl
  refine lv_iload_n hx hb dX0_pokeFour_0 rfl (lv_at hl 1 rfl) ?_
  refine W.callR (W.runS (As := [.int p1]) (rest := []) ⟨hx, hb, hml, hown, hts⟩ (ch_isWord l p1) (cwS 1 hts (gS mL_0_41 mS_0_isWord mN_0 mB_0_isWord) rfl rfl rfl (by decide +kernel) ⟨Nat.le_of_ble_eq_true rfl, Nat.le_of_ble_eq_true rfl⟩) ⟨jblind, fun _ _ _ => ⟨rfl, trivial⟩⟩ rfl rfl hl.1 rfl (lv_room (Nat.le_of_ble_eq_true rfl)) dX0_pokeFour_1 ⟨Nat.zero_le _, Nat.zero_le _⟩) ?_
  refine W.eq (g2 := F0 m 4 ls (.int (h_isWord p1) :: [])) rfl ?_
  refine lv_topi (fun x1 ex1 => ?_)
  refine lv_if_eq (tgt := 17) hx hb dX0_pokeFour_4 (by decide) (fun c2 => ?_) (fun c2 => ?_)
  · exact gThrow (u := st) hnt (by decide) hts mK_0_45 mN_IndexOutOfBoundsException xa_49 xg_49 hx hb hml hown hlocks htb hl.1 hK hP hD hS hX dX0_pokeFour_17 dX0_pokeFour_20 dX0_pokeFour_21 dX0_pokeFour_23 dX0_pokeFour_26 (Nat.le_of_ble_eq_true rfl) (Nat.le_of_ble_eq_true rfl) (Nat.le_of_ble_eq_true rfl) (Nat.le_of_ble_eq_true rfl) (by subst ex1; exact (((if_pos c2).trans rfl)).symm)
  · refine lv_iload_n hx hb dX0_pokeFour_7 rfl (lv_at hl 1 rfl) ?_
    refine lv_bipush (v := 12) hx hb dX0_pokeFour_8 (by decide) ?_
    refine lv_iadd hx hb dX0_pokeFour_10 ?_
    refine W.callR (W.runS (As := [.int (p1 + (12 : Int32))]) (rest := []) ⟨hx, hb, hml, hown, hts⟩ (ch_isWord l (p1 + (12 : Int32))) (cwS 1 hts (gS mL_0_41 mS_0_isWord mN_0 mB_0_isWord) rfl rfl rfl (by decide +kernel) ⟨Nat.le_of_ble_eq_true rfl, Nat.le_of_ble_eq_true rfl⟩) ⟨jblind, fun _ _ _ => ⟨rfl, trivial⟩⟩ rfl rfl hl.1 rfl (lv_room (Nat.le_of_ble_eq_true rfl)) dX0_pokeFour_11 ⟨Nat.zero_le _, Nat.zero_le _⟩) ?_
    refine W.eq (g2 := F0 m 14 ls (.int (h_isWord (p1 + (12 : Int32))) :: [])) rfl ?_
    refine lv_topi (fun x3 ex3 => ?_)
    refine lv_if_ne (tgt := 27) hx hb dX0_pokeFour_14 (by decide) (fun c4 => ?_) (fun c4 => ?_)
    · refine lv_iload_n hx hb dX0_pokeFour_27 rfl (lv_at hl 1 rfl) ?_
      refine lv_iconst (v := 2) hx hb dX0_pokeFour_28 (by decide) ?_
      refine lv_iushr (v := jush p1 (2 : Int32)) hx hb dX0_pokeFour_29 rfl ?_
      refine lv_topi (fun x5 ex5 => ?_)
      refine lv_istore (lv' := [(6, .int x5), (0, .ref h0), (1, .int p1), (2, .int p2), (3, .int p3), (4, .int p4), (5, .int p5)]) hx hb dX0_pokeFour_30 hl (by decide) rfl (fun ls hl => ?_)
      refine lv_aload_n hx hb dX0_pokeFour_32 rfl (lv_at hl 1 rfl) ?_
      refine va_get (D := (dC, dI)) (ci := 0) (v := .ref qme0) (C := "PagedHart") (T := TX0) (N := 6) hx hb hts mU0 hown hK hP 0 rfl rfl 0 (by decide) (hts _ mF_0_10) (fun _ h9 => h9) rfl dX0_pokeFour_33 ?_
      refine lv_iload hx hb dX0_pokeFour_36 (lv_at hl 0 rfl) ?_
      refine lv_iload_n hx hb dX0_pokeFour_38 rfl (lv_at hl 3 rfl) ?_
      refine va_iast (D := (dC, dI)) hx hb hK hP hD hS 1 0 rfl rfl (by rw [ex5]; exact h_inW (by rw [← ex1]; exact c2)) dX0_pokeFour_39 (fun H locs hP hD hS => ?_)
      have hP : va_P (dC, dI) vwCl (gW cI h0 qme0 qre1 qco2 (upd st.1 x5.toNatClampNeg p2, st.2.1, st.2.2.1, st.2.2.2.1, st.2.2.2.2.1, st.2.2.2.2.2)) H := hP
      have hD : va_D (gA h0 qme0 qre1 qco2 s.heap.size) (gW cI h0 qme0 qre1 qco2 (upd st.1 x5.toNatClampNeg p2, st.2.1, st.2.2.1, st.2.2.2.1, st.2.2.2.2.1, st.2.2.2.2.2)) := hD
      refine lv_aload_n hx hb dX0_pokeFour_40 rfl (lv_at hl 1 rfl) ?_
      refine va_get (D := (dC, dI)) (ci := 0) (v := .ref qme0) (C := "PagedHart") (T := TX0) (N := 6) hx hb hts mU0 hown hK hP 0 rfl rfl 0 (by decide) (hts _ mF_0_10) (fun _ h9 => h9) rfl dX0_pokeFour_41 ?_
      refine lv_iload hx hb dX0_pokeFour_44 (lv_at hl 0 rfl) ?_
      refine lv_iconst (v := 1) hx hb dX0_pokeFour_46 (by decide) ?_
      refine lv_iadd hx hb dX0_pokeFour_47 ?_
      refine lv_iload_n hx hb dX0_pokeFour_48 rfl (lv_at hl 4 rfl) ?_
      refine va_iast (D := (dC, dI)) hx hb hK hP hD hS 1 0 rfl rfl (by rw [ex5]; exact h_in4 1 (by rw [← ex1]; exact c2) (by rw [← ex3]; exact c4) (by decide)) dX0_pokeFour_49 (fun H locs hP hD hS => ?_)
      have hP : va_P (dC, dI) vwCl (gW cI h0 qme0 qre1 qco2 (upd (upd st.1 x5.toNatClampNeg p2) (x5 + (1 : Int32)).toNatClampNeg p3, st.2.1, st.2.2.1, st.2.2.2.1, st.2.2.2.2.1, st.2.2.2.2.2)) H := hP
      have hD : va_D (gA h0 qme0 qre1 qco2 s.heap.size) (gW cI h0 qme0 qre1 qco2 (upd (upd st.1 x5.toNatClampNeg p2) (x5 + (1 : Int32)).toNatClampNeg p3, st.2.1, st.2.2.1, st.2.2.2.1, st.2.2.2.2.1, st.2.2.2.2.2)) := hD
      refine lv_aload_n hx hb dX0_pokeFour_50 rfl (lv_at hl 1 rfl) ?_
      refine va_get (D := (dC, dI)) (ci := 0) (v := .ref qme0) (C := "PagedHart") (T := TX0) (N := 6) hx hb hts mU0 hown hK hP 0 rfl rfl 0 (by decide) (hts _ mF_0_10) (fun _ h9 => h9) rfl dX0_pokeFour_51 ?_
      refine lv_iload hx hb dX0_pokeFour_54 (lv_at hl 0 rfl) ?_
      refine lv_iconst (v := 2) hx hb dX0_pokeFour_56 (by decide) ?_
      refine lv_iadd hx hb dX0_pokeFour_57 ?_
      refine lv_iload hx hb dX0_pokeFour_58 (lv_at hl 5 rfl) ?_
      refine va_iast (D := (dC, dI)) hx hb hK hP hD hS 1 0 rfl rfl (by rw [ex5]; exact h_in4 2 (by rw [← ex1]; exact c2) (by rw [← ex3]; exact c4) (by decide)) dX0_pokeFour_60 (fun H locs hP hD hS => ?_)
      have hP : va_P (dC, dI) vwCl (gW cI h0 qme0 qre1 qco2 (upd (upd (upd st.1 x5.toNatClampNeg p2) (x5 + (1 : Int32)).toNatClampNeg p3) (x5 + (2 : Int32)).toNatClampNeg p4, st.2.1, st.2.2.1, st.2.2.2.1, st.2.2.2.2.1, st.2.2.2.2.2)) H := hP
      have hD : va_D (gA h0 qme0 qre1 qco2 s.heap.size) (gW cI h0 qme0 qre1 qco2 (upd (upd (upd st.1 x5.toNatClampNeg p2) (x5 + (1 : Int32)).toNatClampNeg p3) (x5 + (2 : Int32)).toNatClampNeg p4, st.2.1, st.2.2.1, st.2.2.2.1, st.2.2.2.2.1, st.2.2.2.2.2)) := hD
      refine lv_aload_n hx hb dX0_pokeFour_61 rfl (lv_at hl 1 rfl) ?_
      refine va_get (D := (dC, dI)) (ci := 0) (v := .ref qme0) (C := "PagedHart") (T := TX0) (N := 6) hx hb hts mU0 hown hK hP 0 rfl rfl 0 (by decide) (hts _ mF_0_10) (fun _ h9 => h9) rfl dX0_pokeFour_62 ?_
      refine lv_iload hx hb dX0_pokeFour_65 (lv_at hl 0 rfl) ?_
      refine lv_iconst (v := 3) hx hb dX0_pokeFour_67 (by decide) ?_
      refine lv_iadd hx hb dX0_pokeFour_68 ?_
      refine lv_iload hx hb dX0_pokeFour_69 (lv_at hl 6 rfl) ?_
      refine va_iast (D := (dC, dI)) hx hb hK hP hD hS 1 0 rfl rfl (by rw [ex5]; exact h_in4 3 (by rw [← ex1]; exact c2) (by rw [← ex3]; exact c4) (by decide)) dX0_pokeFour_71 (fun H locs hP hD hS => ?_)
      have hP : va_P (dC, dI) vwCl (gW cI h0 qme0 qre1 qco2 (upd (upd (upd (upd st.1 x5.toNatClampNeg p2) (x5 + (1 : Int32)).toNatClampNeg p3) (x5 + (2 : Int32)).toNatClampNeg p4) (x5 + (3 : Int32)).toNatClampNeg p5, st.2.1, st.2.2.1, st.2.2.2.1, st.2.2.2.2.1, st.2.2.2.2.2)) H := hP
      have hD : va_D (gA h0 qme0 qre1 qco2 s.heap.size) (gW cI h0 qme0 qre1 qco2 (upd (upd (upd (upd st.1 x5.toNatClampNeg p2) (x5 + (1 : Int32)).toNatClampNeg p3) (x5 + (2 : Int32)).toNatClampNeg p4) (x5 + (3 : Int32)).toNatClampNeg p5, st.2.1, st.2.2.1, st.2.2.2.1, st.2.2.2.2.1, st.2.2.2.2.2)) := hD
      exact gVretX (u := (upd (upd (upd (upd st.1 x5.toNatClampNeg p2) (x5 + (1 : Int32)).toNatClampNeg p3) (x5 + (2 : Int32)).toNatClampNeg p4) (x5 + (3 : Int32)).toNatClampNeg p5, st.2.1, st.2.2.1, st.2.2.2.1, st.2.2.2.2.1, st.2.2.2.2.2)) hx hb hr hlocks (by subst ex5 ex3 ex1; exact (((if_neg c2).trans ((if_neg c4).trans rfl))).symm) hK hP hD hS dX0_pokeFour_72
    · exact gThrow (u := st) hnt (by decide) hts mK_0_45 mN_IndexOutOfBoundsException xa_49 xg_49 hx hb hml hown hlocks htb hl.1 hK hP hD hS hX dX0_pokeFour_17 dX0_pokeFour_20 dX0_pokeFour_21 dX0_pokeFour_23 dX0_pokeFour_26 (Nat.le_of_ble_eq_true rfl) (Nat.le_of_ble_eq_true rfl) (Nat.le_of_ble_eq_true rfl) (Nat.le_of_ble_eq_true rfl) (by subst ex3 ex1; exact (((if_neg c2).trans ((if_pos c4).trans rfl))).symm)

def h_register (st : HS) (p1 : Int32) : Option (Int32 × HS) :=
  if p1 < 0 then
    none
  else
    if p1 ≤ (33 : Int32) then
      if p1 = (32 : Int32) then
        some (st.2.2.2.1, st)
      else
        if p1 = (33 : Int32) then
          some (st.2.2.2.2.1, st)
        else
          some ((st.2.1 p1.toNatClampNeg), st)
    else
      none
set_option maxHeartbeats 4000000 in
set_option maxRecDepth 100000 in
theorem ch_register (l : Launch) (dC : Nat → ClassId) (dI : Nat → Nat → Nat) (cI h0 qme0 qre1 qco2 tN tB : Nat) (hnt : l.stackTraces = false) (sa : Nat) (sz : Nat) (st : HS) (p1 : Int32)  : vx_Met l yX0_register (.code yX0_register cX0_register 2 (some .int) :: gBIG) ({ frames := 6, cells := 1, slots := 6, locals := 90 }) (va_Pc [.ref h0, .int p1] (gPreX "java/lang/IndexOutOfBoundsException" "registers are 0 to 33" 52 sa dC dI cI h0 qme0 qre1 qco2 tN tB sz st)) (va_Qi (fun r v => some (r, v) = h_register st p1) (gB dC dI cI h0 qme0 qre1 qco2 (gA h0 qme0 qre1 qco2 sz)) (gA h0 qme0 qre1 qco2 sz)) (vx_X (fun v : HS => v = st ∧ none = h_register st p1) (fun E v t => E = "java/lang/IndexOutOfBoundsException" ∧ gB dC dI cI h0 qme0 qre1 qco2 (gA h0 qme0 qre1 qco2 sz) v t) (gA h0 qme0 qre1 qco2 sz)) 1 6 (gA h0 qme0 qre1 qco2 sz) := by
  refine vx_ofW (cc := cX0_register) (maxL := 2) (ret := (some .int)) (by decide) rfl ?_
  intro p e s m args below meth c s₁ B hml htb hv
  obtain ⟨rfl, ⟨hsz, hP, hK, hD0, hZ⟩, hX⟩ := hv
  have hx := B.exec
  have hb := B.bytes
  have hr := B.returns
  have hts : ∀ w ∈ gBIG, w.before _ s = true := fun w h => atoms_spec (ws := (.code yX0_register cX0_register 2 (some .int) :: gBIG)) B.pre w (List.mem_cons_of_mem _ h)
  have hown : s.vm.findClass "PagedHart" = some m.cls := findClass_of_methodNamed B.named
  have hlocks := B.notSynchronized
  subst hsz
  have hD : va_D (gA h0 qme0 qre1 qco2 s.heap.size) (gW cI h0 qme0 qre1 qco2 st) := gD hD0
  have hS : va_S (gA h0 qme0 qre1 qco2 s.heap.size) s.heap s.heap [] := va_S.rf
  have hP : va_P (dC, dI) vwCl (gW cI h0 qme0 qre1 qco2 st) s.heap := hP
  have hl := lv_entry ([.ref h0, .int p1]) (n := 2) (Nat.le_of_ble_eq_true rfl)
  rw [lg_entry_eq]
  generalize (lg_sl ([.ref h0, .int p1]) ++ List.replicate (2 - (lg_sl ([.ref h0, .int p1])).length) Slot.unset).toArray = ls at hl ⊢
  refine jgo (P := fun H locs => va_P (dC, dI) vwCl (gW cI h0 qme0 qre1 qco2 st) H ∧ va_S (gA h0 qme0 qre1 qco2 s.heap.size) s.heap H locs) ⟨hP, hS⟩ (fun H locs hPS => ?_)
  obtain ⟨hP, hS⟩ := hPS
  have hl : lv_has ls 2 [(0, .ref h0), (1, .int p1)] := hl
  refine lv_iload_n hx hb dX0_register_0 rfl (lv_at hl 1 rfl) ?_
  refine lv_if_lt (tgt := 10) hx hb dX0_register_1 (by decide) (fun c1 => ?_) (fun c1 => ?_)
  · exact gThrow (u := st) hnt (by decide) hts mK_0_45 mN_IndexOutOfBoundsException xa_49 xg_49 hx hb hml hown hlocks htb hl.1 hK hP hD hS hX dX0_register_10 dX0_register_13 dX0_register_14 dX0_register_16 dX0_register_19 (Nat.le_of_ble_eq_true rfl) (Nat.le_of_ble_eq_true rfl) (Nat.le_of_ble_eq_true rfl) (Nat.le_of_ble_eq_true rfl) (by exact (((if_pos c1).trans rfl)).symm)
  · refine lv_iload_n hx hb dX0_register_4 rfl (lv_at hl 1 rfl) ?_
    refine lv_bipush (v := 33) hx hb dX0_register_5 (by decide) ?_
    refine lv_icmp_le (tgt := 20) hx hb dX0_register_7 (by decide) (fun c2 => ?_) (fun c2 => ?_)
    · refine lv_iload_n hx hb dX0_register_20 rfl (lv_at hl 1 rfl) ?_
      refine lv_bipush (v := 32) hx hb dX0_register_21 (by decide) ?_
      refine lv_icmp_ne (tgt := 31) hx hb dX0_register_23 (by decide) (fun c3 => ?_) (fun c3 => ?_)
      · refine lv_iload_n hx hb dX0_register_31 rfl (lv_at hl 1 rfl) ?_
        refine lv_bipush (v := 33) hx hb dX0_register_32 (by decide) ?_
        refine lv_icmp_ne (tgt := 44) hx hb dX0_register_34 (by decide) (fun c4 => ?_) (fun c4 => ?_)
        · refine lv_aload_n hx hb dX0_register_44 rfl (lv_at hl 0 rfl) ?_
          refine va_get (D := (dC, dI)) (ci := 0) (v := .ref qre1) (C := "PagedHart") (T := TX0) (N := 6) hx hb hts mU0 hown hK hP 0 rfl rfl 1 (by decide) (hts _ mF_0_14) (fun _ h9 => h9) rfl dX0_register_45 ?_
          refine lv_iload_n hx hb dX0_register_48 rfl (lv_at hl 1 rfl) ?_
          refine va_iald (D := (dC, dI)) hx hb hK hP 2 0 rfl rfl (h_inR c1 c2 c3 c4) dX0_register_49 ?_
          exact gIretX (v := st.2.1 p1.toNatClampNeg) (u := st) hx hb hr hlocks (by exact (((if_neg c1).trans ((if_pos c2).trans ((if_neg c3).trans ((if_neg c4).trans rfl))))).symm) hK hP hD hS dX0_register_50
        · refine lv_aload_n hx hb dX0_register_37 rfl (lv_at hl 0 rfl) ?_
          refine va_get (D := (dC, dI)) (ci := 0) (v := .int st.2.2.2.2.1) (C := "PagedHart") (T := TX0) (N := 6) hx hb hts mU0 hown hK hP 0 rfl rfl 4 (by decide) (hts _ mF_0_24) (fun _ h9 => h9) rfl dX0_register_38 ?_
          refine lv_goto (tgt := 50) hx hb dX0_register_41 (by decide) ?_
          exact gIretX (v := st.2.2.2.2.1) (u := st) hx hb hr hlocks (by exact (((if_neg c1).trans ((if_pos c2).trans ((if_neg c3).trans ((if_pos c4).trans rfl))))).symm) hK hP hD hS dX0_register_50
      · refine lv_aload_n hx hb dX0_register_26 rfl (lv_at hl 0 rfl) ?_
        refine va_get (D := (dC, dI)) (ci := 0) (v := .int st.2.2.2.1) (C := "PagedHart") (T := TX0) (N := 6) hx hb hts mU0 hown hK hP 0 rfl rfl 3 (by decide) (hts _ mF_0_20) (fun _ h9 => h9) rfl dX0_register_27 ?_
        exact gIretX (v := st.2.2.2.1) (u := st) hx hb hr hlocks (by exact (((if_neg c1).trans ((if_pos c2).trans ((if_pos c3).trans rfl)))).symm) hK hP hD hS dX0_register_30
    · exact gThrow (u := st) hnt (by decide) hts mK_0_45 mN_IndexOutOfBoundsException xa_49 xg_49 hx hb hml hown hlocks htb hl.1 hK hP hD hS hX dX0_register_10 dX0_register_13 dX0_register_14 dX0_register_16 dX0_register_19 (Nat.le_of_ble_eq_true rfl) (Nat.le_of_ble_eq_true rfl) (Nat.le_of_ble_eq_true rfl) (Nat.le_of_ble_eq_true rfl) (by exact (((if_neg c1).trans ((if_neg c2).trans rfl))).symm)

def h_setRegister (st : HS) (p1 : Int32) (p2 : Int32) : Option HS :=
  if p1 < 0 then
    none
  else
    if p1 ≤ (33 : Int32) then
      if p1 = (32 : Int32) then
        some (st.1, st.2.1, st.2.2.1, p2, st.2.2.2.2.1, st.2.2.2.2.2)
      else
        if p1 = (33 : Int32) then
          some (st.1, st.2.1, st.2.2.1, st.2.2.2.1, p2 &&& (1 : Int32), st.2.2.2.2.2)
        else
          if p1 = 0 then
            some st
          else
            some (st.1, upd st.2.1 p1.toNatClampNeg p2, st.2.2.1, st.2.2.2.1, st.2.2.2.2.1, st.2.2.2.2.2)
    else
      none
set_option maxHeartbeats 4000000 in
set_option maxRecDepth 100000 in
theorem ch_setRegister (l : Launch) (dC : Nat → ClassId) (dI : Nat → Nat → Nat) (cI h0 qme0 qre1 qco2 tN tB : Nat) (hnt : l.stackTraces = false) (sa : Nat) (sz : Nat) (st : HS) (p1 : Int32) (p2 : Int32)  : vx_Met l yX0_setRegister (.code yX0_setRegister cX0_setRegister 3 none :: gBIG) ({ frames := 6, cells := 1, slots := 6, locals := 90 }) (va_Pc [.ref h0, .int p1, .int p2] (gPreX "java/lang/IndexOutOfBoundsException" "registers are 0 to 33" 52 sa dC dI cI h0 qme0 qre1 qco2 tN tB sz st)) (va_Qv (fun v => some v = h_setRegister st p1 p2) (gB dC dI cI h0 qme0 qre1 qco2 (gA h0 qme0 qre1 qco2 sz)) (gA h0 qme0 qre1 qco2 sz)) (vx_X (fun v : HS => v = st ∧ none = h_setRegister st p1 p2) (fun E v t => E = "java/lang/IndexOutOfBoundsException" ∧ gB dC dI cI h0 qme0 qre1 qco2 (gA h0 qme0 qre1 qco2 sz) v t) (gA h0 qme0 qre1 qco2 sz)) 1 6 (gA h0 qme0 qre1 qco2 sz) := by
  refine vx_ofW (cc := cX0_setRegister) (maxL := 3) (ret := none) (by decide) rfl ?_
  intro p e s m args below meth c s₁ B hml htb hv
  obtain ⟨rfl, ⟨hsz, hP, hK, hD0, hZ⟩, hX⟩ := hv
  have hx := B.exec
  have hb := B.bytes
  have hr := B.returns
  have hts : ∀ w ∈ gBIG, w.before _ s = true := fun w h => atoms_spec (ws := (.code yX0_setRegister cX0_setRegister 3 none :: gBIG)) B.pre w (List.mem_cons_of_mem _ h)
  have hown : s.vm.findClass "PagedHart" = some m.cls := findClass_of_methodNamed B.named
  have hlocks := B.notSynchronized
  subst hsz
  have hD : va_D (gA h0 qme0 qre1 qco2 s.heap.size) (gW cI h0 qme0 qre1 qco2 st) := gD hD0
  have hS : va_S (gA h0 qme0 qre1 qco2 s.heap.size) s.heap s.heap [] := va_S.rf
  have hP : va_P (dC, dI) vwCl (gW cI h0 qme0 qre1 qco2 st) s.heap := hP
  have hl := lv_entry ([.ref h0, .int p1, .int p2]) (n := 3) (Nat.le_of_ble_eq_true rfl)
  rw [lg_entry_eq]
  generalize (lg_sl ([.ref h0, .int p1, .int p2]) ++ List.replicate (3 - (lg_sl ([.ref h0, .int p1, .int p2])).length) Slot.unset).toArray = ls at hl ⊢
  refine jgo (P := fun H locs => va_P (dC, dI) vwCl (gW cI h0 qme0 qre1 qco2 st) H ∧ va_S (gA h0 qme0 qre1 qco2 s.heap.size) s.heap H locs) ⟨hP, hS⟩ (fun H locs hPS => ?_)
  obtain ⟨hP, hS⟩ := hPS
  have hl : lv_has ls 3 [(0, .ref h0), (1, .int p1), (2, .int p2)] := hl
  refine lv_iload_n hx hb dX0_setRegister_0 rfl (lv_at hl 1 rfl) ?_
  refine lv_if_lt (tgt := 10) hx hb dX0_setRegister_1 (by decide) (fun c1 => ?_) (fun c1 => ?_)
  · exact gThrow (u := st) hnt (by decide) hts mK_0_45 mN_IndexOutOfBoundsException xa_49 xg_49 hx hb hml hown hlocks htb hl.1 hK hP hD hS hX dX0_setRegister_10 dX0_setRegister_13 dX0_setRegister_14 dX0_setRegister_16 dX0_setRegister_19 (Nat.le_of_ble_eq_true rfl) (Nat.le_of_ble_eq_true rfl) (Nat.le_of_ble_eq_true rfl) (Nat.le_of_ble_eq_true rfl) (by exact (((if_pos c1).trans rfl)).symm)
  · refine lv_iload_n hx hb dX0_setRegister_4 rfl (lv_at hl 1 rfl) ?_
    refine lv_bipush (v := 33) hx hb dX0_setRegister_5 (by decide) ?_
    refine lv_icmp_le (tgt := 20) hx hb dX0_setRegister_7 (by decide) (fun c2 => ?_) (fun c2 => ?_)
    · refine lv_iload_n hx hb dX0_setRegister_20 rfl (lv_at hl 1 rfl) ?_
      refine lv_bipush (v := 32) hx hb dX0_setRegister_21 (by decide) ?_
      refine lv_icmp_ne (tgt := 34) hx hb dX0_setRegister_23 (by decide) (fun c3 => ?_) (fun c3 => ?_)
      · refine lv_iload_n hx hb dX0_setRegister_34 rfl (lv_at hl 1 rfl) ?_
        refine lv_bipush (v := 33) hx hb dX0_setRegister_35 (by decide) ?_
        refine lv_icmp_ne (tgt := 50) hx hb dX0_setRegister_37 (by decide) (fun c4 => ?_) (fun c4 => ?_)
        · refine lv_iload_n hx hb dX0_setRegister_50 rfl (lv_at hl 1 rfl) ?_
          refine lv_if_eq (tgt := 61) hx hb dX0_setRegister_51 (by decide) (fun c5 => ?_) (fun c5 => ?_)
          · exact gVretX (u := st) hx hb hr hlocks (by exact (((if_neg c1).trans ((if_pos c2).trans ((if_neg c3).trans ((if_neg c4).trans ((if_pos c5).trans rfl)))))).symm) hK hP hD hS dX0_setRegister_61
          · refine lv_aload_n hx hb dX0_setRegister_54 rfl (lv_at hl 0 rfl) ?_
            refine va_get (D := (dC, dI)) (ci := 0) (v := .ref qre1) (C := "PagedHart") (T := TX0) (N := 6) hx hb hts mU0 hown hK hP 0 rfl rfl 1 (by decide) (hts _ mF_0_14) (fun _ h9 => h9) rfl dX0_setRegister_55 ?_
            refine lv_iload_n hx hb dX0_setRegister_58 rfl (lv_at hl 1 rfl) ?_
            refine lv_iload_n hx hb dX0_setRegister_59 rfl (lv_at hl 2 rfl) ?_
            refine va_iast (D := (dC, dI)) hx hb hK hP hD hS 2 0 rfl rfl (h_inR c1 c2 c3 c4) dX0_setRegister_60 (fun H locs hP hD hS => ?_)
            have hP : va_P (dC, dI) vwCl (gW cI h0 qme0 qre1 qco2 (st.1, upd st.2.1 p1.toNatClampNeg p2, st.2.2.1, st.2.2.2.1, st.2.2.2.2.1, st.2.2.2.2.2)) H := hP
            have hD : va_D (gA h0 qme0 qre1 qco2 s.heap.size) (gW cI h0 qme0 qre1 qco2 (st.1, upd st.2.1 p1.toNatClampNeg p2, st.2.2.1, st.2.2.2.1, st.2.2.2.2.1, st.2.2.2.2.2)) := hD
            exact gVretX (u := (st.1, upd st.2.1 p1.toNatClampNeg p2, st.2.2.1, st.2.2.2.1, st.2.2.2.2.1, st.2.2.2.2.2)) hx hb hr hlocks (by exact (((if_neg c1).trans ((if_pos c2).trans ((if_neg c3).trans ((if_neg c4).trans ((if_neg c5).trans rfl)))))).symm) hK hP hD hS dX0_setRegister_61
        · refine lv_aload_n hx hb dX0_setRegister_40 rfl (lv_at hl 0 rfl) ?_
          refine lv_iload_n hx hb dX0_setRegister_41 rfl (lv_at hl 2 rfl) ?_
          refine lv_iconst (v := 1) hx hb dX0_setRegister_42 (by decide) ?_
          refine lv_iand hx hb dX0_setRegister_43 ?_
          refine va_put (D := (dC, dI)) (ci := 0) (v := .int (p2 &&& (1 : Int32))) (ty := .int) (C := "PagedHart") (T := TX0) (N := 6) hx hb hts mU0 tyX0 tyX0_ok nmX0 hown hK hP hD hS 0 rfl rfl 4 (by decide) (hts _ mF_0_24) (fun _ h9 => h9) rfl (by decide +kernel) rfl rfl (Nat.le_of_ble_eq_true rfl) dX0_setRegister_44 (fun H locs hP hD hS => ?_)
          have hP : va_P (dC, dI) vwCl (gW cI h0 qme0 qre1 qco2 (st.1, st.2.1, st.2.2.1, st.2.2.2.1, p2 &&& (1 : Int32), st.2.2.2.2.2)) H := hP
          have hD : va_D (gA h0 qme0 qre1 qco2 s.heap.size) (gW cI h0 qme0 qre1 qco2 (st.1, st.2.1, st.2.2.1, st.2.2.2.1, p2 &&& (1 : Int32), st.2.2.2.2.2)) := hD
          refine lv_goto (tgt := 61) hx hb dX0_setRegister_47 (by decide) ?_
          exact gVretX (u := (st.1, st.2.1, st.2.2.1, st.2.2.2.1, p2 &&& (1 : Int32), st.2.2.2.2.2)) hx hb hr hlocks (by exact (((if_neg c1).trans ((if_pos c2).trans ((if_neg c3).trans ((if_pos c4).trans rfl))))).symm) hK hP hD hS dX0_setRegister_61
      · refine lv_aload_n hx hb dX0_setRegister_26 rfl (lv_at hl 0 rfl) ?_
        refine lv_iload_n hx hb dX0_setRegister_27 rfl (lv_at hl 2 rfl) ?_
        refine va_put (D := (dC, dI)) (ci := 0) (v := .int p2) (ty := .int) (C := "PagedHart") (T := TX0) (N := 6) hx hb hts mU0 tyX0 tyX0_ok nmX0 hown hK hP hD hS 0 rfl rfl 3 (by decide) (hts _ mF_0_20) (fun _ h9 => h9) rfl (by decide +kernel) rfl rfl (Nat.le_of_ble_eq_true rfl) dX0_setRegister_28 (fun H locs hP hD hS => ?_)
        have hP : va_P (dC, dI) vwCl (gW cI h0 qme0 qre1 qco2 (st.1, st.2.1, st.2.2.1, p2, st.2.2.2.2.1, st.2.2.2.2.2)) H := hP
        have hD : va_D (gA h0 qme0 qre1 qco2 s.heap.size) (gW cI h0 qme0 qre1 qco2 (st.1, st.2.1, st.2.2.1, p2, st.2.2.2.2.1, st.2.2.2.2.2)) := hD
        refine lv_goto (tgt := 61) hx hb dX0_setRegister_31 (by decide) ?_
        exact gVretX (u := (st.1, st.2.1, st.2.2.1, p2, st.2.2.2.2.1, st.2.2.2.2.2)) hx hb hr hlocks (by exact (((if_neg c1).trans ((if_pos c2).trans ((if_pos c3).trans rfl)))).symm) hK hP hD hS dX0_setRegister_61
    · exact gThrow (u := st) hnt (by decide) hts mK_0_45 mN_IndexOutOfBoundsException xa_49 xg_49 hx hb hml hown hlocks htb hl.1 hK hP hD hS hX dX0_setRegister_10 dX0_setRegister_13 dX0_setRegister_14 dX0_setRegister_16 dX0_setRegister_19 (Nat.le_of_ble_eq_true rfl) (Nat.le_of_ble_eq_true rfl) (Nat.le_of_ble_eq_true rfl) (Nat.le_of_ble_eq_true rfl) (by exact (((if_neg c1).trans ((if_neg c2).trans rfl))).symm)

def h_translate (st : HS) (p1 : Int32) (p2 : Int32) : Option (Int32 × HS) :=
  if p2 < 0 then
    none
  else
    if p2 ≤ (2 : Int32) then
      let x3 : Int32 := h_locate st p1 p2
      some (x3, st)
    else
      none
set_option maxHeartbeats 4000000 in
set_option maxRecDepth 100000 in
theorem ch_translate (l : Launch) (dC : Nat → ClassId) (dI : Nat → Nat → Nat) (cI h0 qme0 qre1 qco2 tN tB : Nat) (hnt : l.stackTraces = false) (sa : Nat) (sz : Nat) (st : HS) (p1 : Int32) (p2 : Int32)  : vx_Met l yX0_translate (.code yX0_translate cX0_translate 3 (some .int) :: gBIG) ({ frames := 6, cells := 1, slots := 6, locals := 90 }) (va_Pc [.ref h0, .int p1, .int p2] (gPreX "java/lang/IllegalArgumentException" "how is 0, 1 or 2" 66 sa dC dI cI h0 qme0 qre1 qco2 tN tB sz st)) (va_Qi (fun r v => some (r, v) = h_translate st p1 p2) (gB dC dI cI h0 qme0 qre1 qco2 (gA h0 qme0 qre1 qco2 sz)) (gA h0 qme0 qre1 qco2 sz)) (vx_X (fun v : HS => v = st ∧ none = h_translate st p1 p2) (fun E v t => E = "java/lang/IllegalArgumentException" ∧ gB dC dI cI h0 qme0 qre1 qco2 (gA h0 qme0 qre1 qco2 sz) v t) (gA h0 qme0 qre1 qco2 sz)) 1 6 (gA h0 qme0 qre1 qco2 sz) := by
  refine vx_ofW (cc := cX0_translate) (maxL := 3) (ret := (some .int)) (by decide) rfl ?_
  intro p e s m args below meth c s₁ B hml htb hv
  obtain ⟨rfl, ⟨hsz, hP, hK, hD0, hZ⟩, hX⟩ := hv
  have hx := B.exec
  have hb := B.bytes
  have hr := B.returns
  have hts : ∀ w ∈ gBIG, w.before _ s = true := fun w h => atoms_spec (ws := (.code yX0_translate cX0_translate 3 (some .int) :: gBIG)) B.pre w (List.mem_cons_of_mem _ h)
  have hown : s.vm.findClass "PagedHart" = some m.cls := findClass_of_methodNamed B.named
  have hlocks := B.notSynchronized
  subst hsz
  have hD : va_D (gA h0 qme0 qre1 qco2 s.heap.size) (gW cI h0 qme0 qre1 qco2 st) := gD hD0
  have hS : va_S (gA h0 qme0 qre1 qco2 s.heap.size) s.heap s.heap [] := va_S.rf
  have hP : va_P (dC, dI) vwCl (gW cI h0 qme0 qre1 qco2 st) s.heap := hP
  have hl := lv_entry ([.ref h0, .int p1, .int p2]) (n := 3) (Nat.le_of_ble_eq_true rfl)
  rw [lg_entry_eq]
  generalize (lg_sl ([.ref h0, .int p1, .int p2]) ++ List.replicate (3 - (lg_sl ([.ref h0, .int p1, .int p2])).length) Slot.unset).toArray = ls at hl ⊢
  refine jgo (P := fun H locs => va_P (dC, dI) vwCl (gW cI h0 qme0 qre1 qco2 st) H ∧ va_S (gA h0 qme0 qre1 qco2 s.heap.size) s.heap H locs) ⟨hP, hS⟩ (fun H locs hPS => ?_)
  obtain ⟨hP, hS⟩ := hPS
  have hl : lv_has ls 3 [(0, .ref h0), (1, .int p1), (2, .int p2)] := hl
  refine lv_iload_n hx hb dX0_translate_0 rfl (lv_at hl 2 rfl) ?_
  refine lv_if_lt (tgt := 9) hx hb dX0_translate_1 (by decide) (fun c1 => ?_) (fun c1 => ?_)
  · exact gThrow (u := st) hnt (by decide) hts mK_0_31 mN_IllegalArgumentException xa_35 xg_35 hx hb hml hown hlocks htb hl.1 hK hP hD hS hX dX0_translate_9 dX0_translate_12 dX0_translate_13 dX0_translate_15 dX0_translate_18 (Nat.le_of_ble_eq_true rfl) (Nat.le_of_ble_eq_true rfl) (Nat.le_of_ble_eq_true rfl) (Nat.le_of_ble_eq_true rfl) (by exact (((if_pos c1).trans rfl)).symm)
  · refine lv_iload_n hx hb dX0_translate_4 rfl (lv_at hl 2 rfl) ?_
    refine lv_iconst (v := 2) hx hb dX0_translate_5 (by decide) ?_
    refine lv_icmp_le (tgt := 19) hx hb dX0_translate_6 (by decide) (fun c2 => ?_) (fun c2 => ?_)
    · refine lv_aload_n hx hb dX0_translate_19 rfl (lv_at hl 0 rfl) ?_
      refine lv_iload_n hx hb dX0_translate_20 rfl (lv_at hl 1 rfl) ?_
      refine lv_iload_n hx hb dX0_translate_21 rfl (lv_at hl 2 rfl) ?_
      refine gR (As := [.int p1, .int p2]) (rest := []) (f := h_locate st p1 p2) ⟨hx, hb, hml, hown, hts⟩ (ch_locate l dC dI cI h0 qme0 qre1 qco2 tN tB H.size st p1 p2) (cwV 2 hts (gV mL_0_68 mI_0_locate mX_0_locate mN_0 mB_0_locate) rfl rfl rfl (by decide +kernel) ⟨Nat.le_of_ble_eq_true rfl, Nat.le_of_ble_eq_true rfl⟩) hK hP hD hS hZ rfl hl.1 rfl (Nat.le_of_ble_eq_true rfl) dX0_translate_22 ⟨Nat.zero_le _, Nat.zero_le _⟩ ?_
      refine lv_topi (fun x3 ex3 => ?_)
      exact gIretX (v := x3) (u := st) hx hb hr hlocks (by subst ex3; exact (((if_neg c1).trans ((if_pos c2).trans rfl))).symm) hK hP hD hS dX0_translate_25
    · exact gThrow (u := st) hnt (by decide) hts mK_0_31 mN_IllegalArgumentException xa_35 xg_35 hx hb hml hown hlocks htb hl.1 hK hP hD hS hX dX0_translate_9 dX0_translate_12 dX0_translate_13 dX0_translate_15 dX0_translate_18 (Nat.le_of_ble_eq_true rfl) (Nat.le_of_ble_eq_true rfl) (Nat.le_of_ble_eq_true rfl) (Nat.le_of_ble_eq_true rfl) (by exact (((if_neg c1).trans ((if_neg c2).trans rfl))).symm)
