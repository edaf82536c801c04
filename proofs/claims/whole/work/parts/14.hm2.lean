def h_load (st : HS) (p1 : Int32) : Int32 × HS :=
  let x1 : Int32 := h_fOf p1
  if x1 = (3 : Int32) then
    let z3 : Int32 × HS := h_refuse st p1
    z3
  else
    if x1 ≤ (5 : Int32) then
      let x5 : Int32 := h_aOf st p1
      let x6 : Int32 := h_iOf p1
      let x7 : Int32 := x5 + x6
      let x8 : Int32 := h_locateAligned st x7 (1 : Int32) ((1 : Int32) <<< ((x1 &&& (3 : Int32)) &&& 31))
      if 0 ≤ x8 then
        let x10 : Int32 := jush (st.1 (jush x8 (2 : Int32)).toNatClampNeg) ((x8 &&& (3 : Int32)) <<< ((3 : Int32) &&& 31))
        let x11 : Int32 := h_extend x1 x10
        let z12 : Int32 × HS := h_goOnWith st p1 x11
        z12
      else
        let z13 : Int32 × HS := h_trap st (((-1) : Int32) - x8) x7
        z13
    else
      let z14 : Int32 × HS := h_refuse st p1
      z14
set_option maxHeartbeats 4000000 in
set_option maxRecDepth 100000 in
theorem ch_load (l : Launch) (dC : Nat → ClassId) (dI : Nat → Nat → Nat) (cI h0 qme0 qre1 qco2 tN tB : Nat) (sz : Nat) (st : HS) (p1 : Int32)  : Met l yX0_load (.code yX0_load cX0_load 5 (some .boolean) :: gBIG) ({ frames := 3, cells := 0, slots := 0, locals := 75 }) (va_Pc [.ref h0, .int p1] (gPre dC dI cI h0 qme0 qre1 qco2 tN tB sz st)) (va_Qi (fun r v => (r, v) = h_load st p1) (gB dC dI cI h0 qme0 qre1 qco2 (gA h0 qme0 qre1 qco2 sz)) (gA h0 qme0 qre1 qco2 sz)) 0 0 (gA h0 qme0 qre1 qco2 sz) := by
  refine Met.ofW (cc := cX0_load) (maxL := 5) (ret := (some .boolean)) (by decide) rfl ?_
  intro p e s m args below meth c s₁ B hml hv
  obtain ⟨rfl, hsz, hP, hK, hD0, hZ⟩ := hv
  have hx := B.exec
  have hb := B.bytes
  have hr := B.returns
  have hts : ∀ w ∈ gBIG, w.before _ s = true := fun w h => atoms_spec (ws := (.code yX0_load cX0_load 5 (some .boolean) :: gBIG)) B.pre w (List.mem_cons_of_mem _ h)
  have hown : s.vm.findClass "PagedHart" = some m.cls := findClass_of_methodNamed B.named
  have hlocks := B.notSynchronized
  subst hsz
  have hD : va_D (gA h0 qme0 qre1 qco2 s.heap.size) (gW cI h0 qme0 qre1 qco2 st) := gD hD0
  have hS : va_S (gA h0 qme0 qre1 qco2 s.heap.size) s.heap s.heap [] := va_S.rf
  have hP : va_P (dC, dI) vwCl (gW cI h0 qme0 qre1 qco2 st) s.heap := hP
  have hl := lv_entry ([.ref h0, .int p1]) (n := 5) (Nat.le_of_ble_eq_true rfl)
  rw [lg_entry_eq]
  generalize (lg_sl ([.ref h0, .int p1]) ++ List.replicate (5 - (lg_sl ([.ref h0, .int p1])).length) Slot.unset).toArray = ls at hl ⊢
  refine jgo (P := fun H locs => va_P (dC, dI) vwCl (gW cI h0 qme0 qre1 qco2 st) H ∧ va_S (gA h0 qme0 qre1 qco2 s.heap.size) s.heap H locs) ⟨hP, hS⟩ (fun H locs hPS => ?_)
  obtain ⟨hP, hS⟩ := hPS
  have hl : lv_has ls 5 [(0, .ref h0), (1, .int p1)] := hl
  refine lv_iload_n hx hb dX0_load_0 rfl (lv_at hl 1 rfl) ?_
  refine W.callR (W.runS (As := [.int p1]) (rest := []) ⟨hx, hb, hml, hown, hts⟩ (ch_fOf l p1) (cwS 1 hts (gS mL_0_131 mS_0_fOf mN_0 mB_0_fOf) rfl rfl rfl (by decide +kernel) ⟨Nat.le_of_ble_eq_true rfl, Nat.le_of_ble_eq_true rfl⟩) ⟨jblind, fun _ _ _ => ⟨rfl, trivial⟩⟩ rfl rfl hl.1 rfl (lv_room (Nat.le_of_ble_eq_true rfl)) dX0_load_1 ⟨Nat.zero_le _, Nat.zero_le _⟩) ?_
  refine W.eq (g2 := F0 m 4 ls (.int (h_fOf p1) :: [])) rfl ?_
  refine lv_topi (fun x1 ex1 => ?_)
  refine lv_istore_n (lv' := [(2, .int x1), (0, .ref h0), (1, .int p1)]) hx hb dX0_load_4 rfl hl (by decide) rfl (fun ls hl => ?_)
  refine lv_iload_n hx hb dX0_load_5 rfl (lv_at hl 0 rfl) ?_
  refine lv_iconst (v := 3) hx hb dX0_load_6 (by decide) ?_
  refine lv_icmp_eq (tgt := 15) hx hb dX0_load_7 (by decide) (fun c2 => ?_) (fun c2 => ?_)
  · refine lv_aload_n hx hb dX0_load_15 rfl (lv_at hl 1 rfl) ?_
    refine lv_iload_n hx hb dX0_load_16 rfl (lv_at hl 2 rfl) ?_
    refine gMi (As := [.int p1]) (rest := []) (f := h_refuse st p1) ⟨hx, hb, hml, hown, hts⟩ (ch_refuse l dC dI cI h0 qme0 qre1 qco2 tN tB H.size st p1) (cwV 1 hts (gV mL_0_140 mI_0_refuse mX_0_refuse mN_0 mB_0_refuse) rfl rfl rfl (by decide +kernel) ⟨Nat.le_of_ble_eq_true rfl, Nat.le_of_ble_eq_true rfl⟩) hK hP hD hS hZ rfl hl.1 rfl (Nat.le_of_ble_eq_true rfl) dX0_load_17 ⟨Nat.zero_le _, Nat.zero_le _⟩ (fun z3 ez3 H locs hP hD hS => ?_)
    have hP : va_P (dC, dI) vwCl (gW cI h0 qme0 qre1 qco2 z3.2) H := hP
    have hD : va_D (gA h0 qme0 qre1 qco2 s.heap.size) (gW cI h0 qme0 qre1 qco2 z3.2) := hD
    exact gZret (v := z3.1) (u := z3.2) hx hb hr hlocks (jnb (by rw [ez3]; exact hb_refuse st p1)) (by subst ez3 ex1; exact (((if_pos c2).trans rfl)).symm) hK hP hD hS dX0_load_20
  · refine lv_iload_n hx hb dX0_load_10 rfl (lv_at hl 0 rfl) ?_
    refine lv_iconst (v := 5) hx hb dX0_load_11 (by decide) ?_
    refine lv_icmp_le (tgt := 21) hx hb dX0_load_12 (by decide) (fun c4 => ?_) (fun c4 => ?_)
    · refine lv_aload_n hx hb dX0_load_21 rfl (lv_at hl 1 rfl) ?_
      refine lv_iload_n hx hb dX0_load_22 rfl (lv_at hl 2 rfl) ?_
      refine gR (As := [.int p1]) (rest := []) (f := h_aOf st p1) ⟨hx, hb, hml, hown, hts⟩ (ch_aOf l dC dI cI h0 qme0 qre1 qco2 tN tB H.size st p1) (cwV 1 hts (gV mL_0_134 mI_0_aOf mX_0_aOf mN_0 mB_0_aOf) rfl rfl rfl (by decide +kernel) ⟨Nat.le_of_ble_eq_true rfl, Nat.le_of_ble_eq_true rfl⟩) hK hP hD hS hZ rfl hl.1 rfl (Nat.le_of_ble_eq_true rfl) dX0_load_23 ⟨Nat.zero_le _, Nat.zero_le _⟩ ?_
      refine lv_topi (fun x5 ex5 => ?_)
      refine lv_iload_n hx hb dX0_load_26 rfl (lv_at hl 2 rfl) ?_
      refine W.callR (W.runS (As := [.int p1]) (rest := [.int x5]) ⟨hx, hb, hml, hown, hts⟩ (ch_iOf l p1) (cwS 1 hts (gS mL_0_137 mS_0_iOf mN_0 mB_0_iOf) rfl rfl rfl (by decide +kernel) ⟨Nat.le_of_ble_eq_true rfl, Nat.le_of_ble_eq_true rfl⟩) ⟨jblind, fun _ _ _ => ⟨rfl, trivial⟩⟩ rfl rfl hl.1 rfl (lv_room (Nat.le_of_ble_eq_true rfl)) dX0_load_27 ⟨Nat.zero_le _, Nat.zero_le _⟩) ?_
      refine W.eq (g2 := F0 m 30 ls (.int (h_iOf p1) :: [.int x5])) rfl ?_
      refine lv_topi (fun x6 ex6 => ?_)
      refine lv_iadd hx hb dX0_load_30 ?_
      refine lv_topi (fun x7 ex7 => ?_)
      refine lv_istore_n (lv' := [(3, .int x7), (2, .int x1), (0, .ref h0), (1, .int p1)]) hx hb dX0_load_31 rfl hl (by decide) rfl (fun ls hl => ?_)
      refine lv_aload_n hx hb dX0_load_32 rfl (lv_at hl 2 rfl) ?_
      refine lv_iload_n hx hb dX0_load_33 rfl (lv_at hl 0 rfl) ?_
      refine lv_iconst (v := 1) hx hb dX0_load_34 (by decide) ?_
      refine lv_iconst (v := 1) hx hb dX0_load_35 (by decide) ?_
      refine lv_iload_n hx hb dX0_load_36 rfl (lv_at hl 1 rfl) ?_
      refine lv_iconst (v := 3) hx hb dX0_load_37 (by decide) ?_
      refine lv_iand hx hb dX0_load_38 ?_
      refine lv_ishl hx hb dX0_load_39 ?_
      refine gR (As := [.int x7, .int 1, .int ((1 : Int32) <<< ((x1 &&& (3 : Int32)) &&& 31))]) (rest := []) (f := h_locateAligned st x7 (1 : Int32) ((1 : Int32) <<< ((x1 &&& (3 : Int32)) &&& 31))) ⟨hx, hb, hml, hown, hts⟩ (ch_locateAligned l dC dI cI h0 qme0 qre1 qco2 tN tB H.size st x7 (1 : Int32) ((1 : Int32) <<< ((x1 &&& (3 : Int32)) &&& 31))) (cwV 3 hts (gV mL_0_100 mI_0_locateAligned mX_0_locateAligned mN_0 mB_0_locateAligned) rfl rfl rfl (by decide +kernel) ⟨Nat.le_of_ble_eq_true rfl, Nat.le_of_ble_eq_true rfl⟩) hK hP hD hS hZ rfl hl.1 rfl (Nat.le_of_ble_eq_true rfl) dX0_load_40 ⟨Nat.zero_le _, Nat.zero_le _⟩ ?_
      refine lv_topi (fun x8 ex8 => ?_)
      refine lv_istore (lv' := [(4, .int x8), (3, .int x7), (2, .int x1), (0, .ref h0), (1, .int p1)]) hx hb dX0_load_43 hl (by decide) rfl (fun ls hl => ?_)
      refine lv_iload hx hb dX0_load_45 (lv_at hl 0 rfl) ?_
      refine lv_if_ge (tgt := 60) hx hb dX0_load_47 (by decide) (fun c9 => ?_) (fun c9 => ?_)
      · refine lv_aload_n hx hb dX0_load_60 rfl (lv_at hl 3 rfl) ?_
        refine lv_iload_n hx hb dX0_load_61 rfl (lv_at hl 4 rfl) ?_
        refine lv_iload_n hx hb dX0_load_62 rfl (lv_at hl 2 rfl) ?_
        refine lv_aload_n hx hb dX0_load_63 rfl (lv_at hl 3 rfl) ?_
        refine va_get (D := (dC, dI)) (ci := 0) (v := .ref qme0) (C := "PagedHart") (T := TX0) (N := 6) hx hb hts mU0 hown hK hP 0 rfl rfl 0 (by decide) (hts _ mF_0_10) (fun _ h9 => h9) rfl dX0_load_64 ?_
        refine lv_iload hx hb dX0_load_67 (lv_at hl 0 rfl) ?_
        refine lv_iconst (v := 2) hx hb dX0_load_69 (by decide) ?_
        refine lv_iushr (v := jush x8 (2 : Int32)) hx hb dX0_load_70 rfl ?_
        refine va_iald (D := (dC, dI)) hx hb hK hP 1 0 rfl rfl (by rw [ex8]; exact h_in2 (by rw [← ex8]; exact c9)) dX0_load_71 ?_
        refine lv_iload hx hb dX0_load_72 (lv_at hl 0 rfl) ?_
        refine lv_iconst (v := 3) hx hb dX0_load_74 (by decide) ?_
        refine lv_iand hx hb dX0_load_75 ?_
        refine lv_iconst (v := 3) hx hb dX0_load_76 (by decide) ?_
        refine lv_ishl hx hb dX0_load_77 ?_
        refine lv_iushr (v := jush (st.1 (jush x8 (2 : Int32)).toNatClampNeg) ((x8 &&& (3 : Int32)) <<< ((3 : Int32) &&& 31))) hx hb dX0_load_78 rfl ?_
        refine lv_topi (fun x10 ex10 => ?_)
        refine W.callR (W.runS (As := [.int x1, .int x10]) (rest := [.int p1, .ref h0]) ⟨hx, hb, hml, hown, hts⟩ (ch_extend l x1 x10) (cwS 2 hts (gS mL_0_176 mS_0_extend mN_0 mB_0_extend) rfl rfl rfl (by decide +kernel) ⟨Nat.le_of_ble_eq_true rfl, Nat.le_of_ble_eq_true rfl⟩) ⟨jblind, fun _ _ _ => ⟨rfl, trivial⟩⟩ rfl rfl hl.1 rfl (lv_room (Nat.le_of_ble_eq_true rfl)) dX0_load_79 ⟨Nat.zero_le _, Nat.zero_le _⟩) ?_
        refine W.eq (g2 := F0 m 82 ls (.int (h_extend x1 x10) :: [.int p1, .ref h0])) rfl ?_
        refine lv_topi (fun x11 ex11 => ?_)
        refine gMi (As := [.int p1, .int x11]) (rest := []) (f := h_goOnWith st p1 x11) ⟨hx, hb, hml, hown, hts⟩ (ch_goOnWith l dC dI cI h0 qme0 qre1 qco2 tN tB H.size st p1 x11) (cwV 2 hts (gV mL_0_122 mI_0_goOnWith mX_0_goOnWith mN_0 mB_0_goOnWith) rfl rfl rfl (by decide +kernel) ⟨Nat.le_of_ble_eq_true rfl, Nat.le_of_ble_eq_true rfl⟩) hK hP hD hS hZ rfl hl.1 rfl (Nat.le_of_ble_eq_true rfl) dX0_load_82 ⟨Nat.zero_le _, Nat.zero_le _⟩ (fun z12 ez12 H locs hP hD hS => ?_)
        have hP : va_P (dC, dI) vwCl (gW cI h0 qme0 qre1 qco2 z12.2) H := hP
        have hD : va_D (gA h0 qme0 qre1 qco2 s.heap.size) (gW cI h0 qme0 qre1 qco2 z12.2) := hD
        exact gZret (v := z12.1) (u := z12.2) hx hb hr hlocks (jnb (by rw [ez12]; exact hb_goOnWith st p1 x11)) (by subst ez12 ex11 ex10 ex8 ex7 ex6 ex5 ex1; exact (((if_neg c2).trans ((if_pos c4).trans ((if_pos c9).trans rfl)))).symm) hK hP hD hS dX0_load_85
      · refine lv_aload_n hx hb dX0_load_50 rfl (lv_at hl 3 rfl) ?_
        refine lv_iconst (v := (-1)) hx hb dX0_load_51 (by decide) ?_
        refine lv_iload hx hb dX0_load_52 (lv_at hl 0 rfl) ?_
        refine lv_isub hx hb dX0_load_54 ?_
        refine lv_iload_n hx hb dX0_load_55 rfl (lv_at hl 1 rfl) ?_
        refine gMi (As := [.int (((-1) : Int32) - x8), .int x7]) (rest := []) (f := h_trap st (((-1) : Int32) - x8) x7) ⟨hx, hb, hml, hown, hts⟩ (ch_trap l dC dI cI h0 qme0 qre1 qco2 tN tB H.size st (((-1) : Int32) - x8) x7) (cwV 2 hts (gV mL_0_96 mI_0_trap mX_0_trap mN_0 mB_0_trap) rfl rfl rfl (by decide +kernel) ⟨Nat.le_of_ble_eq_true rfl, Nat.le_of_ble_eq_true rfl⟩) hK hP hD hS hZ rfl hl.1 rfl (Nat.le_of_ble_eq_true rfl) dX0_load_56 ⟨Nat.zero_le _, Nat.zero_le _⟩ (fun z13 ez13 H locs hP hD hS => ?_)
        have hP : va_P (dC, dI) vwCl (gW cI h0 qme0 qre1 qco2 z13.2) H := hP
        have hD : va_D (gA h0 qme0 qre1 qco2 s.heap.size) (gW cI h0 qme0 qre1 qco2 z13.2) := hD
        exact gZret (v := z13.1) (u := z13.2) hx hb hr hlocks (jnb (by rw [ez13]; exact hb_trap st (((-1) : Int32) - x8) x7)) (by subst ez13 ex8 ex7 ex6 ex5 ex1; exact (((if_neg c2).trans ((if_pos c4).trans ((if_neg c9).trans rfl)))).symm) hK hP hD hS dX0_load_59
    · refine lv_aload_n hx hb dX0_load_15 rfl (lv_at hl 1 rfl) ?_
      refine lv_iload_n hx hb dX0_load_16 rfl (lv_at hl 2 rfl) ?_
      refine gMi (As := [.int p1]) (rest := []) (f := h_refuse st p1) ⟨hx, hb, hml, hown, hts⟩ (ch_refuse l dC dI cI h0 qme0 qre1 qco2 tN tB H.size st p1) (cwV 1 hts (gV mL_0_140 mI_0_refuse mX_0_refuse mN_0 mB_0_refuse) rfl rfl rfl (by decide +kernel) ⟨Nat.le_of_ble_eq_true rfl, Nat.le_of_ble_eq_true rfl⟩) hK hP hD hS hZ rfl hl.1 rfl (Nat.le_of_ble_eq_true rfl) dX0_load_17 ⟨Nat.zero_le _, Nat.zero_le _⟩ (fun z14 ez14 H locs hP hD hS => ?_)
      have hP : va_P (dC, dI) vwCl (gW cI h0 qme0 qre1 qco2 z14.2) H := hP
      have hD : va_D (gA h0 qme0 qre1 qco2 s.heap.size) (gW cI h0 qme0 qre1 qco2 z14.2) := hD
      exact gZret (v := z14.1) (u := z14.2) hx hb hr hlocks (jnb (by rw [ez14]; exact hb_refuse st p1)) (by subst ez14 ex1; exact (((if_neg c2).trans ((if_neg c4).trans rfl))).symm) hK hP hD hS dX0_load_20
theorem hb_load (st : HS) (p1 : Int32) : (h_load st p1).1 = 0 ∨ (h_load st p1).1 = 1 := by
  unfold h_load
  try dsimp only
  (repeat' split) <;> first | with_reducible exact hb_trap _ _ _ | with_reducible exact hb_refuse _ _ | with_reducible exact hb_goOn _ | with_reducible exact hb_goOnWith _ _ _ | with_reducible exact hb_jump _ _ _ | with_reducible exact hb_branch _ _ | exact Or.inl rfl | exact Or.inr rfl

def h_store (st : HS) (p1 : Int32) : Int32 × HS :=
  let x1 : Int32 := h_fOf p1
  if x1 ≤ (2 : Int32) then
    let x3 : Int32 := h_aOf st p1
    let x4 : Int32 := h_sOf p1
    let x5 : Int32 := x3 + x4
    let x6 : Int32 := h_locateAligned st x5 (2 : Int32) ((1 : Int32) <<< (x1 &&& 31))
    if 0 ≤ x6 then
      let x8 : Int32 := (x6 &&& (3 : Int32)) <<< ((3 : Int32) &&& 31)
      let x9 : Int32 := h_maskOf x1
      let x10 : Int32 := x9 <<< (x8 &&& 31)
      let x11 : Int32 := (st.1 (jush x6 (2 : Int32)).toNatClampNeg) &&& (x10 ^^^ ((-1) : Int32))
      let x12 : Int32 := h_bOf st p1
      let z13 : Int32 × HS := h_goOn (upd st.1 (jush x6 (2 : Int32)).toNatClampNeg (x11 ||| ((x12 <<< (x8 &&& 31)) &&& x10)), st.2.1, st.2.2.1, st.2.2.2.1, st.2.2.2.2.1, st.2.2.2.2.2)
      z13
    else
      let z14 : Int32 × HS := h_trap st (((-1) : Int32) - x6) x5
      z14
  else
    let z15 : Int32 × HS := h_refuse st p1
    z15
set_option maxHeartbeats 4000000 in
set_option maxRecDepth 100000 in
theorem ch_store (l : Launch) (dC : Nat → ClassId) (dI : Nat → Nat → Nat) (cI h0 qme0 qre1 qco2 tN tB : Nat) (sz : Nat) (st : HS) (p1 : Int32)  : Met l yX0_store (.code yX0_store cX0_store 7 (some .boolean) :: gBIG) ({ frames := 3, cells := 0, slots := 0, locals := 75 }) (va_Pc [.ref h0, .int p1] (gPre dC dI cI h0 qme0 qre1 qco2 tN tB sz st)) (va_Qi (fun r v => (r, v) = h_store st p1) (gB dC dI cI h0 qme0 qre1 qco2 (gA h0 qme0 qre1 qco2 sz)) (gA h0 qme0 qre1 qco2 sz)) 0 0 (gA h0 qme0 qre1 qco2 sz) := by
  refine Met.ofW (cc := cX0_store) (maxL := 7) (ret := (some .boolean)) (by decide) rfl ?_
  intro p e s m args below meth c s₁ B hml hv
  obtain ⟨rfl, hsz, hP, hK, hD0, hZ⟩ := hv
  have hx := B.exec
  have hb := B.bytes
  have hr := B.returns
  have hts : ∀ w ∈ gBIG, w.before _ s = true := fun w h => atoms_spec (ws := (.code yX0_store cX0_store 7 (some .boolean) :: gBIG)) B.pre w (List.mem_cons_of_mem _ h)
  have hown : s.vm.findClass "PagedHart" = some m.cls := findClass_of_methodNamed B.named
  have hlocks := B.notSynchronized
  subst hsz
  have hD : va_D (gA h0 qme0 qre1 qco2 s.heap.size) (gW cI h0 qme0 qre1 qco2 st) := gD hD0
  have hS : va_S (gA h0 qme0 qre1 qco2 s.heap.size) s.heap s.heap [] := va_S.rf
  have hP : va_P (dC, dI) vwCl (gW cI h0 qme0 qre1 qco2 st) s.heap := hP
  have hl := lv_entry ([.ref h0, .int p1]) (n := 7) (Nat.le_of_ble_eq_true rfl)
  rw [lg_entry_eq]
  generalize (lg_sl ([.ref h0, .int p1]) ++ List.replicate (7 - (lg_sl ([.ref h0, .int p1])).length) Slot.unset).toArray = ls at hl ⊢
  refine jgo (P := fun H locs => va_P (dC, dI) vwCl (gW cI h0 qme0 qre1 qco2 st) H ∧ va_S (gA h0 qme0 qre1 qco2 s.heap.size) s.heap H locs) ⟨hP, hS⟩ (fun H locs hPS => ?_)
  obtain ⟨hP, hS⟩ := hPS
  have hl : lv_has ls 7 [(0, .ref h0), (1, .int p1)] := hl
  refine lv_iload_n hx hb dX0_store_0 rfl (lv_at hl 1 rfl) ?_
  refine W.callR (W.runS (As := [.int p1]) (rest := []) ⟨hx, hb, hml, hown, hts⟩ (ch_fOf l p1) (cwS 1 hts (gS mL_0_131 mS_0_fOf mN_0 mB_0_fOf) rfl rfl rfl (by decide +kernel) ⟨Nat.le_of_ble_eq_true rfl, Nat.le_of_ble_eq_true rfl⟩) ⟨jblind, fun _ _ _ => ⟨rfl, trivial⟩⟩ rfl rfl hl.1 rfl (lv_room (Nat.le_of_ble_eq_true rfl)) dX0_store_1 ⟨Nat.zero_le _, Nat.zero_le _⟩) ?_
  refine W.eq (g2 := F0 m 4 ls (.int (h_fOf p1) :: [])) rfl ?_
  refine lv_topi (fun x1 ex1 => ?_)
  refine lv_istore_n (lv' := [(2, .int x1), (0, .ref h0), (1, .int p1)]) hx hb dX0_store_4 rfl hl (by decide) rfl (fun ls hl => ?_)
  refine lv_iload_n hx hb dX0_store_5 rfl (lv_at hl 0 rfl) ?_
  refine lv_iconst (v := 2) hx hb dX0_store_6 (by decide) ?_
  refine lv_icmp_le (tgt := 16) hx hb dX0_store_7 (by decide) (fun c2 => ?_) (fun c2 => ?_)
  · refine lv_aload_n hx hb dX0_store_16 rfl (lv_at hl 1 rfl) ?_
    refine lv_iload_n hx hb dX0_store_17 rfl (lv_at hl 2 rfl) ?_
    refine gR (As := [.int p1]) (rest := []) (f := h_aOf st p1) ⟨hx, hb, hml, hown, hts⟩ (ch_aOf l dC dI cI h0 qme0 qre1 qco2 tN tB H.size st p1) (cwV 1 hts (gV mL_0_134 mI_0_aOf mX_0_aOf mN_0 mB_0_aOf) rfl rfl rfl (by decide +kernel) ⟨Nat.le_of_ble_eq_true rfl, Nat.le_of_ble_eq_true rfl⟩) hK hP hD hS hZ rfl hl.1 rfl (Nat.le_of_ble_eq_true rfl) dX0_store_18 ⟨Nat.zero_le _, Nat.zero_le _⟩ ?_
    refine lv_topi (fun x3 ex3 => ?_)
    refine lv_iload_n hx hb dX0_store_21 rfl (lv_at hl 2 rfl) ?_
    refine W.callR (W.runS (As := [.int p1]) (rest := [.int x3]) ⟨hx, hb, hml, hown, hts⟩ (ch_sOf l p1) (cwS 1 hts (gS mL_0_180 mS_0_sOf mN_0 mB_0_sOf) rfl rfl rfl (by decide +kernel) ⟨Nat.le_of_ble_eq_true rfl, Nat.le_of_ble_eq_true rfl⟩) ⟨jblind, fun _ _ _ => ⟨rfl, trivial⟩⟩ rfl rfl hl.1 rfl (lv_room (Nat.le_of_ble_eq_true rfl)) dX0_store_22 ⟨Nat.zero_le _, Nat.zero_le _⟩) ?_
    refine W.eq (g2 := F0 m 25 ls (.int (h_sOf p1) :: [.int x3])) rfl ?_
    refine lv_topi (fun x4 ex4 => ?_)
    refine lv_iadd hx hb dX0_store_25 ?_
    refine lv_topi (fun x5 ex5 => ?_)
    refine lv_istore_n (lv' := [(3, .int x5), (2, .int x1), (0, .ref h0), (1, .int p1)]) hx hb dX0_store_26 rfl hl (by decide) rfl (fun ls hl => ?_)
    refine lv_aload_n hx hb dX0_store_27 rfl (lv_at hl 2 rfl) ?_
    refine lv_iload_n hx hb dX0_store_28 rfl (lv_at hl 0 rfl) ?_
    refine lv_iconst (v := 2) hx hb dX0_store_29 (by decide) ?_
    refine lv_iconst (v := 1) hx hb dX0_store_30 (by decide) ?_
    refine lv_iload_n hx hb dX0_store_31 rfl (lv_at hl 1 rfl) ?_
    refine lv_ishl hx hb dX0_store_32 ?_
    refine gR (As := [.int x5, .int 2, .int ((1 : Int32) <<< (x1 &&& 31))]) (rest := []) (f := h_locateAligned st x5 (2 : Int32) ((1 : Int32) <<< (x1 &&& 31))) ⟨hx, hb, hml, hown, hts⟩ (ch_locateAligned l dC dI cI h0 qme0 qre1 qco2 tN tB H.size st x5 (2 : Int32) ((1 : Int32) <<< (x1 &&& 31))) (cwV 3 hts (gV mL_0_100 mI_0_locateAligned mX_0_locateAligned mN_0 mB_0_locateAligned) rfl rfl rfl (by decide +kernel) ⟨Nat.le_of_ble_eq_true rfl, Nat.le_of_ble_eq_true rfl⟩) hK hP hD hS hZ rfl hl.1 rfl (Nat.le_of_ble_eq_true rfl) dX0_store_33 ⟨Nat.zero_le _, Nat.zero_le _⟩ ?_
    refine lv_topi (fun x6 ex6 => ?_)
    refine lv_istore (lv' := [(4, .int x6), (3, .int x5), (2, .int x1), (0, .ref h0), (1, .int p1)]) hx hb dX0_store_36 hl (by decide) rfl (fun ls hl => ?_)
    refine lv_iload hx hb dX0_store_38 (lv_at hl 0 rfl) ?_
    refine lv_if_ge (tgt := 53) hx hb dX0_store_40 (by decide) (fun c7 => ?_) (fun c7 => ?_)
    · refine lv_iload hx hb dX0_store_53 (lv_at hl 0 rfl) ?_
      refine lv_iconst (v := 3) hx hb dX0_store_55 (by decide) ?_
      refine lv_iand hx hb dX0_store_56 ?_
      refine lv_iconst (v := 3) hx hb dX0_store_57 (by decide) ?_
      refine lv_ishl hx hb dX0_store_58 ?_
      refine lv_topi (fun x8 ex8 => ?_)
      refine lv_istore (lv' := [(5, .int x8), (4, .int x6), (3, .int x5), (2, .int x1), (0, .ref h0), (1, .int p1)]) hx hb dX0_store_59 hl (by decide) rfl (fun ls hl => ?_)
      refine lv_iload_n hx hb dX0_store_61 rfl (lv_at hl 3 rfl) ?_
      refine W.callR (W.runS (As := [.int x1]) (rest := []) ⟨hx, hb, hml, hown, hts⟩ (ch_maskOf l x1) (cwS 1 hts (gS mL_0_183 mS_0_maskOf mN_0 mB_0_maskOf) rfl rfl rfl (by decide +kernel) ⟨Nat.le_of_ble_eq_true rfl, Nat.le_of_ble_eq_true rfl⟩) ⟨jblind, fun _ _ _ => ⟨rfl, trivial⟩⟩ rfl rfl hl.1 rfl (lv_room (Nat.le_of_ble_eq_true rfl)) dX0_store_62 ⟨Nat.zero_le _, Nat.zero_le _⟩) ?_
      refine W.eq (g2 := F0 m 65 ls (.int (h_maskOf x1) :: [])) rfl ?_
      refine lv_topi (fun x9 ex9 => ?_)
      refine lv_iload hx hb dX0_store_65 (lv_at hl 0 rfl) ?_
      refine lv_ishl hx hb dX0_store_67 ?_
      refine lv_topi (fun x10 ex10 => ?_)
      refine lv_istore (lv' := [(6, .int x10), (5, .int x8), (4, .int x6), (3, .int x5), (2, .int x1), (0, .ref h0), (1, .int p1)]) hx hb dX0_store_68 hl (by decide) rfl (fun ls hl => ?_)
      refine lv_aload_n hx hb dX0_store_70 rfl (lv_at hl 5 rfl) ?_
      refine va_get (D := (dC, dI)) (ci := 0) (v := .ref qme0) (C := "PagedHart") (T := TX0) (N := 6) hx hb hts mU0 hown hK hP 0 rfl rfl 0 (by decide) (hts _ mF_0_10) (fun _ h9 => h9) rfl dX0_store_71 ?_
      refine lv_iload hx hb dX0_store_74 (lv_at hl 2 rfl) ?_
      refine lv_iconst (v := 2) hx hb dX0_store_76 (by decide) ?_
      refine lv_iushr (v := jush x6 (2 : Int32)) hx hb dX0_store_77 rfl ?_
      refine lv_aload_n hx hb dX0_store_78 rfl (lv_at hl 5 rfl) ?_
      refine va_get (D := (dC, dI)) (ci := 0) (v := .ref qme0) (C := "PagedHart") (T := TX0) (N := 6) hx hb hts mU0 hown hK hP 0 rfl rfl 0 (by decide) (hts _ mF_0_10) (fun _ h9 => h9) rfl dX0_store_79 ?_
      refine lv_iload hx hb dX0_store_82 (lv_at hl 2 rfl) ?_
      refine lv_iconst (v := 2) hx hb dX0_store_84 (by decide) ?_
      refine lv_iushr (v := jush x6 (2 : Int32)) hx hb dX0_store_85 rfl ?_
      refine va_iald (D := (dC, dI)) hx hb hK hP 1 0 rfl rfl (by rw [ex6]; exact h_in2 (by rw [← ex6]; exact c7)) dX0_store_86 ?_
      refine lv_iload hx hb dX0_store_87 (lv_at hl 0 rfl) ?_
      refine lv_iconst (v := (-1)) hx hb dX0_store_89 (by decide) ?_
      refine lv_ixor hx hb dX0_store_90 ?_
      refine lv_iand hx hb dX0_store_91 ?_
      refine lv_topi (fun x11 ex11 => ?_)
      refine lv_aload_n hx hb dX0_store_92 rfl (lv_at hl 5 rfl) ?_
      refine lv_iload_n hx hb dX0_store_93 rfl (lv_at hl 6 rfl) ?_
      refine gR (As := [.int p1]) (rest := [.int x11, .int (jush x6 (2 : Int32)), .ref qme0]) (f := h_bOf st p1) ⟨hx, hb, hml, hown, hts⟩ (ch_bOf l dC dI cI h0 qme0 qre1 qco2 tN tB H.size st p1) (cwV 1 hts (gV mL_0_161 mI_0_bOf mX_0_bOf mN_0 mB_0_bOf) rfl rfl rfl (by decide +kernel) ⟨Nat.le_of_ble_eq_true rfl, Nat.le_of_ble_eq_true rfl⟩) hK hP hD hS hZ rfl hl.1 rfl (Nat.le_of_ble_eq_true rfl) dX0_store_94 ⟨Nat.zero_le _, Nat.zero_le _⟩ ?_
      refine lv_topi (fun x12 ex12 => ?_)
      refine lv_iload hx hb dX0_store_97 (lv_at hl 1 rfl) ?_
      refine lv_ishl hx hb dX0_store_99 ?_
      refine lv_iload hx hb dX0_store_100 (lv_at hl 0 rfl) ?_
      refine lv_iand hx hb dX0_store_102 ?_
      refine lv_ior hx hb dX0_store_103 ?_
      refine va_iast (D := (dC, dI)) hx hb hK hP hD hS 1 0 rfl rfl (by rw [ex6]; exact h_in2 (by rw [← ex6]; exact c7)) dX0_store_104 (fun H locs hP hD hS => ?_)
      have hP : va_P (dC, dI) vwCl (gW cI h0 qme0 qre1 qco2 (upd st.1 (jush x6 (2 : Int32)).toNatClampNeg (x11 ||| ((x12 <<< (x8 &&& 31)) &&& x10)), st.2.1, st.2.2.1, st.2.2.2.1, st.2.2.2.2.1, st.2.2.2.2.2)) H := hP
      have hD : va_D (gA h0 qme0 qre1 qco2 s.heap.size) (gW cI h0 qme0 qre1 qco2 (upd st.1 (jush x6 (2 : Int32)).toNatClampNeg (x11 ||| ((x12 <<< (x8 &&& 31)) &&& x10)), st.2.1, st.2.2.1, st.2.2.2.1, st.2.2.2.2.1, st.2.2.2.2.2)) := hD
      refine lv_aload_n hx hb dX0_store_105 rfl (lv_at hl 5 rfl) ?_
      refine gMi (As := []) (rest := []) (f := h_goOn (upd st.1 (jush x6 (2 : Int32)).toNatClampNeg (x11 ||| ((x12 <<< (x8 &&& 31)) &&& x10)), st.2.1, st.2.2.1, st.2.2.2.1, st.2.2.2.2.1, st.2.2.2.2.2)) ⟨hx, hb, hml, hown, hts⟩ (ch_goOn l dC dI cI h0 qme0 qre1 qco2 tN tB H.size (upd st.1 (jush x6 (2 : Int32)).toNatClampNeg (x11 ||| ((x12 <<< (x8 &&& 31)) &&& x10)), st.2.1, st.2.2.1, st.2.2.2.1, st.2.2.2.2.1, st.2.2.2.2.2) ) (cwV 0 hts (gV mL_0_115 mI_0_goOn mX_0_goOn mN_0 mB_0_goOn) rfl rfl rfl (by decide +kernel) ⟨Nat.le_of_ble_eq_true rfl, Nat.le_of_ble_eq_true rfl⟩) hK hP hD hS hZ rfl hl.1 rfl (Nat.le_of_ble_eq_true rfl) dX0_store_106 ⟨Nat.zero_le _, Nat.zero_le _⟩ (fun z13 ez13 H locs hP hD hS => ?_)
      have hP : va_P (dC, dI) vwCl (gW cI h0 qme0 qre1 qco2 z13.2) H := hP
      have hD : va_D (gA h0 qme0 qre1 qco2 s.heap.size) (gW cI h0 qme0 qre1 qco2 z13.2) := hD
      exact gZret (v := z13.1) (u := z13.2) hx hb hr hlocks (jnb (by rw [ez13]; exact hb_goOn (upd st.1 (jush x6 (2 : Int32)).toNatClampNeg (x11 ||| ((x12 <<< (x8 &&& 31)) &&& x10)), st.2.1, st.2.2.1, st.2.2.2.1, st.2.2.2.2.1, st.2.2.2.2.2))) (by subst ez13 ex12 ex11 ex10 ex9 ex8 ex6 ex5 ex4 ex3 ex1; exact (((if_pos c2).trans ((if_pos c7).trans rfl))).symm) hK hP hD hS dX0_store_109
    · refine lv_aload_n hx hb dX0_store_43 rfl (lv_at hl 3 rfl) ?_
      refine lv_iconst (v := (-1)) hx hb dX0_store_44 (by decide) ?_
      refine lv_iload hx hb dX0_store_45 (lv_at hl 0 rfl) ?_
      refine lv_isub hx hb dX0_store_47 ?_
      refine lv_iload_n hx hb dX0_store_48 rfl (lv_at hl 1 rfl) ?_
      refine gMi (As := [.int (((-1) : Int32) - x6), .int x5]) (rest := []) (f := h_trap st (((-1) : Int32) - x6) x5) ⟨hx, hb, hml, hown, hts⟩ (ch_trap l dC dI cI h0 qme0 qre1 qco2 tN tB H.size st (((-1) : Int32) - x6) x5) (cwV 2 hts (gV mL_0_96 mI_0_trap mX_0_trap mN_0 mB_0_trap) rfl rfl rfl (by decide +kernel) ⟨Nat.le_of_ble_eq_true rfl, Nat.le_of_ble_eq_true rfl⟩) hK hP hD hS hZ rfl hl.1 rfl (Nat.le_of_ble_eq_true rfl) dX0_store_49 ⟨Nat.zero_le _, Nat.zero_le _⟩ (fun z14 ez14 H locs hP hD hS => ?_)
      have hP : va_P (dC, dI) vwCl (gW cI h0 qme0 qre1 qco2 z14.2) H := hP
      have hD : va_D (gA h0 qme0 qre1 qco2 s.heap.size) (gW cI h0 qme0 qre1 qco2 z14.2) := hD
      exact gZret (v := z14.1) (u := z14.2) hx hb hr hlocks (jnb (by rw [ez14]; exact hb_trap st (((-1) : Int32) - x6) x5)) (by subst ez14 ex6 ex5 ex4 ex3 ex1; exact (((if_pos c2).trans ((if_neg c7).trans rfl))).symm) hK hP hD hS dX0_store_52
  · refine lv_aload_n hx hb dX0_store_10 rfl (lv_at hl 1 rfl) ?_
    refine lv_iload_n hx hb dX0_store_11 rfl (lv_at hl 2 rfl) ?_
    refine gMi (As := [.int p1]) (rest := []) (f := h_refuse st p1) ⟨hx, hb, hml, hown, hts⟩ (ch_refuse l dC dI cI h0 qme0 qre1 qco2 tN tB H.size st p1) (cwV 1 hts (gV mL_0_140 mI_0_refuse mX_0_refuse mN_0 mB_0_refuse) rfl rfl rfl (by decide +kernel) ⟨Nat.le_of_ble_eq_true rfl, Nat.le_of_ble_eq_true rfl⟩) hK hP hD hS hZ rfl hl.1 rfl (Nat.le_of_ble_eq_true rfl) dX0_store_12 ⟨Nat.zero_le _, Nat.zero_le _⟩ (fun z15 ez15 H locs hP hD hS => ?_)
    have hP : va_P (dC, dI) vwCl (gW cI h0 qme0 qre1 qco2 z15.2) H := hP
    have hD : va_D (gA h0 qme0 qre1 qco2 s.heap.size) (gW cI h0 qme0 qre1 qco2 z15.2) := hD
    exact gZret (v := z15.1) (u := z15.2) hx hb hr hlocks (jnb (by rw [ez15]; exact hb_refuse st p1)) (by subst ez15 ex1; exact (((if_neg c2).trans rfl)).symm) hK hP hD hS dX0_store_15
theorem hb_store (st : HS) (p1 : Int32) : (h_store st p1).1 = 0 ∨ (h_store st p1).1 = 1 := by
  unfold h_store
  try dsimp only
  (repeat' split) <;> first | with_reducible exact hb_trap _ _ _ | with_reducible exact hb_refuse _ _ | with_reducible exact hb_goOn _ | with_reducible exact hb_goOnWith _ _ _ | with_reducible exact hb_jump _ _ _ | with_reducible exact hb_branch _ _ | with_reducible exact hb_load _ _ | exact Or.inl rfl | exact Or.inr rfl

def h_calculateWithNumber (st : HS) (p1 : Int32) : Int32 × HS :=
  let x1 : Int32 := h_fOf p1
  let x2 : Int32 := h_gOf p1
  if x1 = (1 : Int32) then
    if x2 = 0 then
      let x11 : Int32 := h_aOf st p1
      let x12 : Int32 := h_iOf p1
      let x13 : Int32 := h_calculate x1 x11 x12
      let z14 : Int32 × HS := h_goOnWith st p1 x13
      z14
    else
      if x1 = (5 : Int32) then
        if x2 = (32 : Int32) then
          let x9 : Int32 := h_aOf st p1
          let z10 : Int32 × HS := h_goOnWith st p1 (x9 >>> (((jush p1 (20 : Int32)) &&& (31 : Int32)) &&& 31))
          z10
        else
          let z8 : Int32 × HS := h_refuse st p1
          z8
      else
        let z6 : Int32 × HS := h_refuse st p1
        z6
  else
    if x1 = (5 : Int32) then
      if x2 = 0 then
        let x27 : Int32 := h_aOf st p1
        let x28 : Int32 := h_iOf p1
        let x29 : Int32 := h_calculate x1 x27 x28
        let z30 : Int32 × HS := h_goOnWith st p1 x29
        z30
      else
        if x1 = (5 : Int32) then
          if x2 = (32 : Int32) then
            let x25 : Int32 := h_aOf st p1
            let z26 : Int32 × HS := h_goOnWith st p1 (x25 >>> (((jush p1 (20 : Int32)) &&& (31 : Int32)) &&& 31))
            z26
          else
            let z24 : Int32 × HS := h_refuse st p1
            z24
        else
          let z22 : Int32 × HS := h_refuse st p1
          z22
    else
      let x16 : Int32 := h_aOf st p1
      let x17 : Int32 := h_iOf p1
      let x18 : Int32 := h_calculate x1 x16 x17
      let z19 : Int32 × HS := h_goOnWith st p1 x18
      z19
set_option maxHeartbeats 4000000 in
set_option maxRecDepth 100000 in
theorem ch_calculateWithNumber (l : Launch) (dC : Nat → ClassId) (dI : Nat → Nat → Nat) (cI h0 qme0 qre1 qco2 tN tB : Nat) (sz : Nat) (st : HS) (p1 : Int32)  : Met l yX0_calculateWithNumber (.code yX0_calculateWithNumber cX0_calculateWithNumber 4 (some .boolean) :: gBIG) ({ frames := 2, cells := 0, slots := 0, locals := 45 }) (va_Pc [.ref h0, .int p1] (gPre dC dI cI h0 qme0 qre1 qco2 tN tB sz st)) (va_Qi (fun r v => (r, v) = h_calculateWithNumber st p1) (gB dC dI cI h0 qme0 qre1 qco2 (gA h0 qme0 qre1 qco2 sz)) (gA h0 qme0 qre1 qco2 sz)) 0 0 (gA h0 qme0 qre1 qco2 sz) := by
  refine Met.ofW (cc := cX0_calculateWithNumber) (maxL := 4) (ret := (some .boolean)) (by decide) rfl ?_
  intro p e s m args below meth c s₁ B hml hv
  obtain ⟨rfl, hsz, hP, hK, hD0, hZ⟩ := hv
  have hx := B.exec
  have hb := B.bytes
  have hr := B.returns
  have hts : ∀ w ∈ gBIG, w.before _ s = true := fun w h => atoms_spec (ws := (.code yX0_calculateWithNumber cX0_calculateWithNumber 4 (some .boolean) :: gBIG)) B.pre w (List.mem_cons_of_mem _ h)
  have hown : s.vm.findClass "PagedHart" = some m.cls := findClass_of_methodNamed B.named
  have hlocks := B.notSynchronized
  subst hsz
  have hD : va_D (gA h0 qme0 qre1 qco2 s.heap.size) (gW cI h0 qme0 qre1 qco2 st) := gD hD0
  have hS : va_S (gA h0 qme0 qre1 qco2 s.heap.size) s.heap s.heap [] := va_S.rf
  have hP : va_P (dC, dI) vwCl (gW cI h0 qme0 qre1 qco2 st) s.heap := hP
  have hl := lv_entry ([.ref h0, .int p1]) (n := 4) (Nat.le_of_ble_eq_true rfl)
  rw [lg_entry_eq]
  generalize (lg_sl ([.ref h0, .int p1]) ++ List.replicate (4 - (lg_sl ([.ref h0, .int p1])).length) Slot.unset).toArray = ls at hl ⊢
  refine jgo (P := fun H locs => va_P (dC, dI) vwCl (gW cI h0 qme0 qre1 qco2 st) H ∧ va_S (gA h0 qme0 qre1 qco2 s.heap.size) s.heap H locs) ⟨hP, hS⟩ (fun H locs hPS => ?_)
  obtain ⟨hP, hS⟩ := hPS
  have hl : lv_has ls 4 [(0, .ref h0), (1, .int p1)] := hl
  refine lv_iload_n hx hb dX0_calculateWithNumber_0 rfl (lv_at hl 1 rfl) ?_
  refine W.callR (W.runS (As := [.int p1]) (rest := []) ⟨hx, hb, hml, hown, hts⟩ (ch_fOf l p1) (cwS 1 hts (gS mL_0_131 mS_0_fOf mN_0 mB_0_fOf) rfl rfl rfl (by decide +kernel) ⟨Nat.le_of_ble_eq_true rfl, Nat.le_of_ble_eq_true rfl⟩) ⟨jblind, fun _ _ _ => ⟨rfl, trivial⟩⟩ rfl rfl hl.1 rfl (lv_room (Nat.le_of_ble_eq_true rfl)) dX0_calculateWithNumber_1 ⟨Nat.zero_le _, Nat.zero_le _⟩) ?_
  refine W.eq (g2 := F0 m 4 ls (.int (h_fOf p1) :: [])) rfl ?_
  refine lv_topi (fun x1 ex1 => ?_)
  refine lv_istore_n (lv' := [(2, .int x1), (0, .ref h0), (1, .int p1)]) hx hb dX0_calculateWithNumber_4 rfl hl (by decide) rfl (fun ls hl => ?_)
  refine lv_iload_n hx hb dX0_calculateWithNumber_5 rfl (lv_at hl 2 rfl) ?_
  refine W.callR (W.runS (As := [.int p1]) (rest := []) ⟨hx, hb, hml, hown, hts⟩ (ch_gOf l p1) (cwS 1 hts (gS mL_0_186 mS_0_gOf mN_0 mB_0_gOf) rfl rfl rfl (by decide +kernel) ⟨Nat.le_of_ble_eq_true rfl, Nat.le_of_ble_eq_true rfl⟩) ⟨jblind, fun _ _ _ => ⟨rfl, trivial⟩⟩ rfl rfl hl.1 rfl (lv_room (Nat.le_of_ble_eq_true rfl)) dX0_calculateWithNumber_6 ⟨Nat.zero_le _, Nat.zero_le _⟩) ?_
  refine W.eq (g2 := F0 m 9 ls (.int (h_gOf p1) :: [])) rfl ?_
  refine lv_topi (fun x2 ex2 => ?_)
  refine lv_istore_n (lv' := [(3, .int x2), (2, .int x1), (0, .ref h0), (1, .int p1)]) hx hb dX0_calculateWithNumber_9 rfl hl (by decide) rfl (fun ls hl => ?_)
  refine lv_iload_n hx hb dX0_calculateWithNumber_10 rfl (lv_at hl 1 rfl) ?_
  refine lv_iconst (v := 1) hx hb dX0_calculateWithNumber_11 (by decide) ?_
  refine lv_icmp_eq (tgt := 20) hx hb dX0_calculateWithNumber_12 (by decide) (fun c3 => ?_) (fun c3 => ?_)
  · refine lv_iload_n hx hb dX0_calculateWithNumber_20 rfl (lv_at hl 0 rfl) ?_
    refine lv_if_ne (tgt := 43) hx hb dX0_calculateWithNumber_21 (by decide) (fun c4 => ?_) (fun c4 => ?_)
    · refine lv_iload_n hx hb dX0_calculateWithNumber_43 rfl (lv_at hl 1 rfl) ?_
      refine lv_iconst (v := 5) hx hb dX0_calculateWithNumber_44 (by decide) ?_
      refine lv_icmp_ne (tgt := 73) hx hb dX0_calculateWithNumber_45 (by decide) (fun c5 => ?_) (fun c5 => ?_)
      · refine lv_aload_n hx hb dX0_calculateWithNumber_73 rfl (lv_at hl 2 rfl) ?_
        refine lv_iload_n hx hb dX0_calculateWithNumber_74 rfl (lv_at hl 3 rfl) ?_
        refine gMi (As := [.int p1]) (rest := []) (f := h_refuse st p1) ⟨hx, hb, hml, hown, hts⟩ (ch_refuse l dC dI cI h0 qme0 qre1 qco2 tN tB H.size st p1) (cwV 1 hts (gV mL_0_140 mI_0_refuse mX_0_refuse mN_0 mB_0_refuse) rfl rfl rfl (by decide +kernel) ⟨Nat.le_of_ble_eq_true rfl, Nat.le_of_ble_eq_true rfl⟩) hK hP hD hS hZ rfl hl.1 rfl (Nat.le_of_ble_eq_true rfl) dX0_calculateWithNumber_75 ⟨Nat.zero_le _, Nat.zero_le _⟩ (fun z6 ez6 H locs hP hD hS => ?_)
        have hP : va_P (dC, dI) vwCl (gW cI h0 qme0 qre1 qco2 z6.2) H := hP
        have hD : va_D (gA h0 qme0 qre1 qco2 s.heap.size) (gW cI h0 qme0 qre1 qco2 z6.2) := hD
        exact gZret (v := z6.1) (u := z6.2) hx hb hr hlocks (jnb (by rw [ez6]; exact hb_refuse st p1)) (by subst ez6 ex2 ex1; exact (((if_pos c3).trans ((if_neg c4).trans ((if_neg c5).trans rfl)))).symm) hK hP hD hS dX0_calculateWithNumber_78
      · refine lv_iload_n hx hb dX0_calculateWithNumber_48 rfl (lv_at hl 0 rfl) ?_
        refine lv_bipush (v := 32) hx hb dX0_calculateWithNumber_49 (by decide) ?_
        refine lv_icmp_ne (tgt := 73) hx hb dX0_calculateWithNumber_51 (by decide) (fun c7 => ?_) (fun c7 => ?_)
        · refine lv_aload_n hx hb dX0_calculateWithNumber_73 rfl (lv_at hl 2 rfl) ?_
          refine lv_iload_n hx hb dX0_calculateWithNumber_74 rfl (lv_at hl 3 rfl) ?_
          refine gMi (As := [.int p1]) (rest := []) (f := h_refuse st p1) ⟨hx, hb, hml, hown, hts⟩ (ch_refuse l dC dI cI h0 qme0 qre1 qco2 tN tB H.size st p1) (cwV 1 hts (gV mL_0_140 mI_0_refuse mX_0_refuse mN_0 mB_0_refuse) rfl rfl rfl (by decide +kernel) ⟨Nat.le_of_ble_eq_true rfl, Nat.le_of_ble_eq_true rfl⟩) hK hP hD hS hZ rfl hl.1 rfl (Nat.le_of_ble_eq_true rfl) dX0_calculateWithNumber_75 ⟨Nat.zero_le _, Nat.zero_le _⟩ (fun z8 ez8 H locs hP hD hS => ?_)
          have hP : va_P (dC, dI) vwCl (gW cI h0 qme0 qre1 qco2 z8.2) H := hP
          have hD : va_D (gA h0 qme0 qre1 qco2 s.heap.size) (gW cI h0 qme0 qre1 qco2 z8.2) := hD
          exact gZret (v := z8.1) (u := z8.2) hx hb hr hlocks (jnb (by rw [ez8]; exact hb_refuse st p1)) (by subst ez8 ex2 ex1; exact (((if_pos c3).trans ((if_neg c4).trans ((if_pos c5).trans ((if_neg c7).trans rfl))))).symm) hK hP hD hS dX0_calculateWithNumber_78
        · refine lv_aload_n hx hb dX0_calculateWithNumber_54 rfl (lv_at hl 2 rfl) ?_
          refine lv_iload_n hx hb dX0_calculateWithNumber_55 rfl (lv_at hl 3 rfl) ?_
          refine lv_aload_n hx hb dX0_calculateWithNumber_56 rfl (lv_at hl 2 rfl) ?_
          refine lv_iload_n hx hb dX0_calculateWithNumber_57 rfl (lv_at hl 3 rfl) ?_
          refine gR (As := [.int p1]) (rest := [.int p1, .ref h0]) (f := h_aOf st p1) ⟨hx, hb, hml, hown, hts⟩ (ch_aOf l dC dI cI h0 qme0 qre1 qco2 tN tB H.size st p1) (cwV 1 hts (gV mL_0_134 mI_0_aOf mX_0_aOf mN_0 mB_0_aOf) rfl rfl rfl (by decide +kernel) ⟨Nat.le_of_ble_eq_true rfl, Nat.le_of_ble_eq_true rfl⟩) hK hP hD hS hZ rfl hl.1 rfl (Nat.le_of_ble_eq_true rfl) dX0_calculateWithNumber_58 ⟨Nat.zero_le _, Nat.zero_le _⟩ ?_
          refine lv_topi (fun x9 ex9 => ?_)
          refine lv_iload_n hx hb dX0_calculateWithNumber_61 rfl (lv_at hl 3 rfl) ?_
          refine lv_bipush (v := 20) hx hb dX0_calculateWithNumber_62 (by decide) ?_
          refine lv_iushr (v := jush p1 (20 : Int32)) hx hb dX0_calculateWithNumber_64 rfl ?_
          refine lv_bipush (v := 31) hx hb dX0_calculateWithNumber_65 (by decide) ?_
          refine lv_iand hx hb dX0_calculateWithNumber_67 ?_
          refine lv_ishr hx hb dX0_calculateWithNumber_68 ?_
          refine gMi (As := [.int p1, .int (x9 >>> (((jush p1 (20 : Int32)) &&& (31 : Int32)) &&& 31))]) (rest := []) (f := h_goOnWith st p1 (x9 >>> (((jush p1 (20 : Int32)) &&& (31 : Int32)) &&& 31))) ⟨hx, hb, hml, hown, hts⟩ (ch_goOnWith l dC dI cI h0 qme0 qre1 qco2 tN tB H.size st p1 (x9 >>> (((jush p1 (20 : Int32)) &&& (31 : Int32)) &&& 31))) (cwV 2 hts (gV mL_0_122 mI_0_goOnWith mX_0_goOnWith mN_0 mB_0_goOnWith) rfl rfl rfl (by decide +kernel) ⟨Nat.le_of_ble_eq_true rfl, Nat.le_of_ble_eq_true rfl⟩) hK hP hD hS hZ rfl hl.1 rfl (Nat.le_of_ble_eq_true rfl) dX0_calculateWithNumber_69 ⟨Nat.zero_le _, Nat.zero_le _⟩ (fun z10 ez10 H locs hP hD hS => ?_)
          have hP : va_P (dC, dI) vwCl (gW cI h0 qme0 qre1 qco2 z10.2) H := hP
          have hD : va_D (gA h0 qme0 qre1 qco2 s.heap.size) (gW cI h0 qme0 qre1 qco2 z10.2) := hD
          exact gZret (v := z10.1) (u := z10.2) hx hb hr hlocks (jnb (by rw [ez10]; exact hb_goOnWith st p1 (x9 >>> (((jush p1 (20 : Int32)) &&& (31 : Int32)) &&& 31)))) (by subst ez10 ex9 ex2 ex1; exact (((if_pos c3).trans ((if_neg c4).trans ((if_pos c5).trans ((if_pos c7).trans rfl))))).symm) hK hP hD hS dX0_calculateWithNumber_72
    · refine lv_aload_n hx hb dX0_calculateWithNumber_24 rfl (lv_at hl 2 rfl) ?_
      refine lv_iload_n hx hb dX0_calculateWithNumber_25 rfl (lv_at hl 3 rfl) ?_
      refine lv_iload_n hx hb dX0_calculateWithNumber_26 rfl (lv_at hl 1 rfl) ?_
      refine lv_aload_n hx hb dX0_calculateWithNumber_27 rfl (lv_at hl 2 rfl) ?_
      refine lv_iload_n hx hb dX0_calculateWithNumber_28 rfl (lv_at hl 3 rfl) ?_
      refine gR (As := [.int p1]) (rest := [.int x1, .int p1, .ref h0]) (f := h_aOf st p1) ⟨hx, hb, hml, hown, hts⟩ (ch_aOf l dC dI cI h0 qme0 qre1 qco2 tN tB H.size st p1) (cwV 1 hts (gV mL_0_134 mI_0_aOf mX_0_aOf mN_0 mB_0_aOf) rfl rfl rfl (by decide +kernel) ⟨Nat.le_of_ble_eq_true rfl, Nat.le_of_ble_eq_true rfl⟩) hK hP hD hS hZ rfl hl.1 rfl (Nat.le_of_ble_eq_true rfl) dX0_calculateWithNumber_29 ⟨Nat.zero_le _, Nat.zero_le _⟩ ?_
      refine lv_topi (fun x11 ex11 => ?_)
      refine lv_iload_n hx hb dX0_calculateWithNumber_32 rfl (lv_at hl 3 rfl) ?_
      refine W.callR (W.runS (As := [.int p1]) (rest := [.int x11, .int x1, .int p1, .ref h0]) ⟨hx, hb, hml, hown, hts⟩ (ch_iOf l p1) (cwS 1 hts (gS mL_0_137 mS_0_iOf mN_0 mB_0_iOf) rfl rfl rfl (by decide +kernel) ⟨Nat.le_of_ble_eq_true rfl, Nat.le_of_ble_eq_true rfl⟩) ⟨jblind, fun _ _ _ => ⟨rfl, trivial⟩⟩ rfl rfl hl.1 rfl (lv_room (Nat.le_of_ble_eq_true rfl)) dX0_calculateWithNumber_33 ⟨Nat.zero_le _, Nat.zero_le _⟩) ?_
      refine W.eq (g2 := F0 m 36 ls (.int (h_iOf p1) :: [.int x11, .int x1, .int p1, .ref h0])) rfl ?_
      refine lv_topi (fun x12 ex12 => ?_)
      refine W.callR (W.runS (As := [.int x1, .int x11, .int x12]) (rest := [.int p1, .ref h0]) ⟨hx, hb, hml, hown, hts⟩ (ch_calculate l x1 x11 x12) (cwS 3 hts (gS mL_0_189 mS_0_calculate mN_0 mB_0_calculate) rfl rfl rfl (by decide +kernel) ⟨Nat.le_of_ble_eq_true rfl, Nat.le_of_ble_eq_true rfl⟩) ⟨jblind, fun _ _ _ => ⟨rfl, trivial⟩⟩ rfl rfl hl.1 rfl (lv_room (Nat.le_of_ble_eq_true rfl)) dX0_calculateWithNumber_36 ⟨Nat.zero_le _, Nat.zero_le _⟩) ?_
      refine W.eq (g2 := F0 m 39 ls (.int (h_calculate x1 x11 x12) :: [.int p1, .ref h0])) rfl ?_
      refine lv_topi (fun x13 ex13 => ?_)
      refine gMi (As := [.int p1, .int x13]) (rest := []) (f := h_goOnWith st p1 x13) ⟨hx, hb, hml, hown, hts⟩ (ch_goOnWith l dC dI cI h0 qme0 qre1 qco2 tN tB H.size st p1 x13) (cwV 2 hts (gV mL_0_122 mI_0_goOnWith mX_0_goOnWith mN_0 mB_0_goOnWith) rfl rfl rfl (by decide +kernel) ⟨Nat.le_of_ble_eq_true rfl, Nat.le_of_ble_eq_true rfl⟩) hK hP hD hS hZ rfl hl.1 rfl (Nat.le_of_ble_eq_true rfl) dX0_calculateWithNumber_39 ⟨Nat.zero_le _, Nat.zero_le _⟩ (fun z14 ez14 H locs hP hD hS => ?_)
      have hP : va_P (dC, dI) vwCl (gW cI h0 qme0 qre1 qco2 z14.2) H := hP
      have hD : va_D (gA h0 qme0 qre1 qco2 s.heap.size) (gW cI h0 qme0 qre1 qco2 z14.2) := hD
      exact gZret (v := z14.1) (u := z14.2) hx hb hr hlocks (jnb (by rw [ez14]; exact hb_goOnWith st p1 x13)) (by subst ez14 ex13 ex12 ex11 ex2 ex1; exact (((if_pos c3).trans ((if_pos c4).trans rfl))).symm) hK hP hD hS dX0_calculateWithNumber_42
  · refine lv_iload_n hx hb dX0_calculateWithNumber_15 rfl (lv_at hl 1 rfl) ?_
    refine lv_iconst (v := 5) hx hb dX0_calculateWithNumber_16 (by decide) ?_
    refine lv_icmp_ne (tgt := 24) hx hb dX0_calculateWithNumber_17 (by decide) (fun c15 => ?_) (fun c15 => ?_)
    · refine lv_aload_n hx hb dX0_calculateWithNumber_24 rfl (lv_at hl 2 rfl) ?_
      refine lv_iload_n hx hb dX0_calculateWithNumber_25 rfl (lv_at hl 3 rfl) ?_
      refine lv_iload_n hx hb dX0_calculateWithNumber_26 rfl (lv_at hl 1 rfl) ?_
      refine lv_aload_n hx hb dX0_calculateWithNumber_27 rfl (lv_at hl 2 rfl) ?_
      refine lv_iload_n hx hb dX0_calculateWithNumber_28 rfl (lv_at hl 3 rfl) ?_
      refine gR (As := [.int p1]) (rest := [.int x1, .int p1, .ref h0]) (f := h_aOf st p1) ⟨hx, hb, hml, hown, hts⟩ (ch_aOf l dC dI cI h0 qme0 qre1 qco2 tN tB H.size st p1) (cwV 1 hts (gV mL_0_134 mI_0_aOf mX_0_aOf mN_0 mB_0_aOf) rfl rfl rfl (by decide +kernel) ⟨Nat.le_of_ble_eq_true rfl, Nat.le_of_ble_eq_true rfl⟩) hK hP hD hS hZ rfl hl.1 rfl (Nat.le_of_ble_eq_true rfl) dX0_calculateWithNumber_29 ⟨Nat.zero_le _, Nat.zero_le _⟩ ?_
      refine lv_topi (fun x16 ex16 => ?_)
      refine lv_iload_n hx hb dX0_calculateWithNumber_32 rfl (lv_at hl 3 rfl) ?_
      refine W.callR (W.runS (As := [.int p1]) (rest := [.int x16, .int x1, .int p1, .ref h0]) ⟨hx, hb, hml, hown, hts⟩ (ch_iOf l p1) (cwS 1 hts (gS mL_0_137 mS_0_iOf mN_0 mB_0_iOf) rfl rfl rfl (by decide +kernel) ⟨Nat.le_of_ble_eq_true rfl, Nat.le_of_ble_eq_true rfl⟩) ⟨jblind, fun _ _ _ => ⟨rfl, trivial⟩⟩ rfl rfl hl.1 rfl (lv_room (Nat.le_of_ble_eq_true rfl)) dX0_calculateWithNumber_33 ⟨Nat.zero_le _, Nat.zero_le _⟩) ?_
      refine W.eq (g2 := F0 m 36 ls (.int (h_iOf p1) :: [.int x16, .int x1, .int p1, .ref h0])) rfl ?_
      refine lv_topi (fun x17 ex17 => ?_)
      refine W.callR (W.runS (As := [.int x1, .int x16, .int x17]) (rest := [.int p1, .ref h0]) ⟨hx, hb, hml, hown, hts⟩ (ch_calculate l x1 x16 x17) (cwS 3 hts (gS mL_0_189 mS_0_calculate mN_0 mB_0_calculate) rfl rfl rfl (by decide +kernel) ⟨Nat.le_of_ble_eq_true rfl, Nat.le_of_ble_eq_true rfl⟩) ⟨jblind, fun _ _ _ => ⟨rfl, trivial⟩⟩ rfl rfl hl.1 rfl (lv_room (Nat.le_of_ble_eq_true rfl)) dX0_calculateWithNumber_36 ⟨Nat.zero_le _, Nat.zero_le _⟩) ?_
      refine W.eq (g2 := F0 m 39 ls (.int (h_calculate x1 x16 x17) :: [.int p1, .ref h0])) rfl ?_
      refine lv_topi (fun x18 ex18 => ?_)
      refine gMi (As := [.int p1, .int x18]) (rest := []) (f := h_goOnWith st p1 x18) ⟨hx, hb, hml, hown, hts⟩ (ch_goOnWith l dC dI cI h0 qme0 qre1 qco2 tN tB H.size st p1 x18) (cwV 2 hts (gV mL_0_122 mI_0_goOnWith mX_0_goOnWith mN_0 mB_0_goOnWith) rfl rfl rfl (by decide +kernel) ⟨Nat.le_of_ble_eq_true rfl, Nat.le_of_ble_eq_true rfl⟩) hK hP hD hS hZ rfl hl.1 rfl (Nat.le_of_ble_eq_true rfl) dX0_calculateWithNumber_39 ⟨Nat.zero_le _, Nat.zero_le _⟩ (fun z19 ez19 H locs hP hD hS => ?_)
      have hP : va_P (dC, dI) vwCl (gW cI h0 qme0 qre1 qco2 z19.2) H := hP
      have hD : va_D (gA h0 qme0 qre1 qco2 s.heap.size) (gW cI h0 qme0 qre1 qco2 z19.2) := hD
      exact gZret (v := z19.1) (u := z19.2) hx hb hr hlocks (jnb (by rw [ez19]; exact hb_goOnWith st p1 x18)) (by subst ez19 ex18 ex17 ex16 ex2 ex1; exact (((if_neg c3).trans ((if_neg c15).trans rfl))).symm) hK hP hD hS dX0_calculateWithNumber_42
    · refine lv_iload_n hx hb dX0_calculateWithNumber_20 rfl (lv_at hl 0 rfl) ?_
      refine lv_if_ne (tgt := 43) hx hb dX0_calculateWithNumber_21 (by decide) (fun c20 => ?_) (fun c20 => ?_)
      · refine lv_iload_n hx hb dX0_calculateWithNumber_43 rfl (lv_at hl 1 rfl) ?_
        refine lv_iconst (v := 5) hx hb dX0_calculateWithNumber_44 (by decide) ?_
        refine lv_icmp_ne (tgt := 73) hx hb dX0_calculateWithNumber_45 (by decide) (fun c21 => ?_) (fun c21 => ?_)
        · refine lv_aload_n hx hb dX0_calculateWithNumber_73 rfl (lv_at hl 2 rfl) ?_
          refine lv_iload_n hx hb dX0_calculateWithNumber_74 rfl (lv_at hl 3 rfl) ?_
          refine gMi (As := [.int p1]) (rest := []) (f := h_refuse st p1) ⟨hx, hb, hml, hown, hts⟩ (ch_refuse l dC dI cI h0 qme0 qre1 qco2 tN tB H.size st p1) (cwV 1 hts (gV mL_0_140 mI_0_refuse mX_0_refuse mN_0 mB_0_refuse) rfl rfl rfl (by decide +kernel) ⟨Nat.le_of_ble_eq_true rfl, Nat.le_of_ble_eq_true rfl⟩) hK hP hD hS hZ rfl hl.1 rfl (Nat.le_of_ble_eq_true rfl) dX0_calculateWithNumber_75 ⟨Nat.zero_le _, Nat.zero_le _⟩ (fun z22 ez22 H locs hP hD hS => ?_)
          have hP : va_P (dC, dI) vwCl (gW cI h0 qme0 qre1 qco2 z22.2) H := hP
          have hD : va_D (gA h0 qme0 qre1 qco2 s.heap.size) (gW cI h0 qme0 qre1 qco2 z22.2) := hD
          exact gZret (v := z22.1) (u := z22.2) hx hb hr hlocks (jnb (by rw [ez22]; exact hb_refuse st p1)) (by subst ez22 ex2 ex1; exact (((if_neg c3).trans ((if_pos c15).trans ((if_neg c20).trans ((if_neg c21).trans rfl))))).symm) hK hP hD hS dX0_calculateWithNumber_78
        · refine lv_iload_n hx hb dX0_calculateWithNumber_48 rfl (lv_at hl 0 rfl) ?_
          refine lv_bipush (v := 32) hx hb dX0_calculateWithNumber_49 (by decide) ?_
          refine lv_icmp_ne (tgt := 73) hx hb dX0_calculateWithNumber_51 (by decide) (fun c23 => ?_) (fun c23 => ?_)
          · refine lv_aload_n hx hb dX0_calculateWithNumber_73 rfl (lv_at hl 2 rfl) ?_
            refine lv_iload_n hx hb dX0_calculateWithNumber_74 rfl (lv_at hl 3 rfl) ?_
            refine gMi (As := [.int p1]) (rest := []) (f := h_refuse st p1) ⟨hx, hb, hml, hown, hts⟩ (ch_refuse l dC dI cI h0 qme0 qre1 qco2 tN tB H.size st p1) (cwV 1 hts (gV mL_0_140 mI_0_refuse mX_0_refuse mN_0 mB_0_refuse) rfl rfl rfl (by decide +kernel) ⟨Nat.le_of_ble_eq_true rfl, Nat.le_of_ble_eq_true rfl⟩) hK hP hD hS hZ rfl hl.1 rfl (Nat.le_of_ble_eq_true rfl) dX0_calculateWithNumber_75 ⟨Nat.zero_le _, Nat.zero_le _⟩ (fun z24 ez24 H locs hP hD hS => ?_)
            have hP : va_P (dC, dI) vwCl (gW cI h0 qme0 qre1 qco2 z24.2) H := hP
            have hD : va_D (gA h0 qme0 qre1 qco2 s.heap.size) (gW cI h0 qme0 qre1 qco2 z24.2) := hD
            exact gZret (v := z24.1) (u := z24.2) hx hb hr hlocks (jnb (by rw [ez24]; exact hb_refuse st p1)) (by subst ez24 ex2 ex1; exact (((if_neg c3).trans ((if_pos c15).trans ((if_neg c20).trans ((if_pos c21).trans ((if_neg c23).trans rfl)))))).symm) hK hP hD hS dX0_calculateWithNumber_78
          · refine lv_aload_n hx hb dX0_calculateWithNumber_54 rfl (lv_at hl 2 rfl) ?_
            refine lv_iload_n hx hb dX0_calculateWithNumber_55 rfl (lv_at hl 3 rfl) ?_
            refine lv_aload_n hx hb dX0_calculateWithNumber_56 rfl (lv_at hl 2 rfl) ?_
            refine lv_iload_n hx hb dX0_calculateWithNumber_57 rfl (lv_at hl 3 rfl) ?_
            refine gR (As := [.int p1]) (rest := [.int p1, .ref h0]) (f := h_aOf st p1) ⟨hx, hb, hml, hown, hts⟩ (ch_aOf l dC dI cI h0 qme0 qre1 qco2 tN tB H.size st p1) (cwV 1 hts (gV mL_0_134 mI_0_aOf mX_0_aOf mN_0 mB_0_aOf) rfl rfl rfl (by decide +kernel) ⟨Nat.le_of_ble_eq_true rfl, Nat.le_of_ble_eq_true rfl⟩) hK hP hD hS hZ rfl hl.1 rfl (Nat.le_of_ble_eq_true rfl) dX0_calculateWithNumber_58 ⟨Nat.zero_le _, Nat.zero_le _⟩ ?_
            refine lv_topi (fun x25 ex25 => ?_)
            refine lv_iload_n hx hb dX0_calculateWithNumber_61 rfl (lv_at hl 3 rfl) ?_
            refine lv_bipush (v := 20) hx hb dX0_calculateWithNumber_62 (by decide) ?_
            refine lv_iushr (v := jush p1 (20 : Int32)) hx hb dX0_calculateWithNumber_64 rfl ?_
            refine lv_bipush (v := 31) hx hb dX0_calculateWithNumber_65 (by decide) ?_
            refine lv_iand hx hb dX0_calculateWithNumber_67 ?_
            refine lv_ishr hx hb dX0_calculateWithNumber_68 ?_
            refine gMi (As := [.int p1, .int (x25 >>> (((jush p1 (20 : Int32)) &&& (31 : Int32)) &&& 31))]) (rest := []) (f := h_goOnWith st p1 (x25 >>> (((jush p1 (20 : Int32)) &&& (31 : Int32)) &&& 31))) ⟨hx, hb, hml, hown, hts⟩ (ch_goOnWith l dC dI cI h0 qme0 qre1 qco2 tN tB H.size st p1 (x25 >>> (((jush p1 (20 : Int32)) &&& (31 : Int32)) &&& 31))) (cwV 2 hts (gV mL_0_122 mI_0_goOnWith mX_0_goOnWith mN_0 mB_0_goOnWith) rfl rfl rfl (by decide +kernel) ⟨Nat.le_of_ble_eq_true rfl, Nat.le_of_ble_eq_true rfl⟩) hK hP hD hS hZ rfl hl.1 rfl (Nat.le_of_ble_eq_true rfl) dX0_calculateWithNumber_69 ⟨Nat.zero_le _, Nat.zero_le _⟩ (fun z26 ez26 H locs hP hD hS => ?_)
            have hP : va_P (dC, dI) vwCl (gW cI h0 qme0 qre1 qco2 z26.2) H := hP
            have hD : va_D (gA h0 qme0 qre1 qco2 s.heap.size) (gW cI h0 qme0 qre1 qco2 z26.2) := hD
            exact gZret (v := z26.1) (u := z26.2) hx hb hr hlocks (jnb (by rw [ez26]; exact hb_goOnWith st p1 (x25 >>> (((jush p1 (20 : Int32)) &&& (31 : Int32)) &&& 31)))) (by subst ez26 ex25 ex2 ex1; exact (((if_neg c3).trans ((if_pos c15).trans ((if_neg c20).trans ((if_pos c21).trans ((if_pos c23).trans rfl)))))).symm) hK hP hD hS dX0_calculateWithNumber_72
      · refine lv_aload_n hx hb dX0_calculateWithNumber_24 rfl (lv_at hl 2 rfl) ?_
        refine lv_iload_n hx hb dX0_calculateWithNumber_25 rfl (lv_at hl 3 rfl) ?_
        refine lv_iload_n hx hb dX0_calculateWithNumber_26 rfl (lv_at hl 1 rfl) ?_
        refine lv_aload_n hx hb dX0_calculateWithNumber_27 rfl (lv_at hl 2 rfl) ?_
        refine lv_iload_n hx hb dX0_calculateWithNumber_28 rfl (lv_at hl 3 rfl) ?_
        refine gR (As := [.int p1]) (rest := [.int x1, .int p1, .ref h0]) (f := h_aOf st p1) ⟨hx, hb, hml, hown, hts⟩ (ch_aOf l dC dI cI h0 qme0 qre1 qco2 tN tB H.size st p1) (cwV 1 hts (gV mL_0_134 mI_0_aOf mX_0_aOf mN_0 mB_0_aOf) rfl rfl rfl (by decide +kernel) ⟨Nat.le_of_ble_eq_true rfl, Nat.le_of_ble_eq_true rfl⟩) hK hP hD hS hZ rfl hl.1 rfl (Nat.le_of_ble_eq_true rfl) dX0_calculateWithNumber_29 ⟨Nat.zero_le _, Nat.zero_le _⟩ ?_
        refine lv_topi (fun x27 ex27 => ?_)
        refine lv_iload_n hx hb dX0_calculateWithNumber_32 rfl (lv_at hl 3 rfl) ?_
        refine W.callR (W.runS (As := [.int p1]) (rest := [.int x27, .int x1, .int p1, .ref h0]) ⟨hx, hb, hml, hown, hts⟩ (ch_iOf l p1) (cwS 1 hts (gS mL_0_137 mS_0_iOf mN_0 mB_0_iOf) rfl rfl rfl (by decide +kernel) ⟨Nat.le_of_ble_eq_true rfl, Nat.le_of_ble_eq_true rfl⟩) ⟨jblind, fun _ _ _ => ⟨rfl, trivial⟩⟩ rfl rfl hl.1 rfl (lv_room (Nat.le_of_ble_eq_true rfl)) dX0_calculateWithNumber_33 ⟨Nat.zero_le _, Nat.zero_le _⟩) ?_
        refine W.eq (g2 := F0 m 36 ls (.int (h_iOf p1) :: [.int x27, .int x1, .int p1, .ref h0])) rfl ?_
        refine lv_topi (fun x28 ex28 => ?_)
        refine W.callR (W.runS (As := [.int x1, .int x27, .int x28]) (rest := [.int p1, .ref h0]) ⟨hx, hb, hml, hown, hts⟩ (ch_calculate l x1 x27 x28) (cwS 3 hts (gS mL_0_189 mS_0_calculate mN_0 mB_0_calculate) rfl rfl rfl (by decide +kernel) ⟨Nat.le_of_ble_eq_true rfl, Nat.le_of_ble_eq_true rfl⟩) ⟨jblind, fun _ _ _ => ⟨rfl, trivial⟩⟩ rfl rfl hl.1 rfl (lv_room (Nat.le_of_ble_eq_true rfl)) dX0_calculateWithNumber_36 ⟨Nat.zero_le _, Nat.zero_le _⟩) ?_
        refine W.eq (g2 := F0 m 39 ls (.int (h_calculate x1 x27 x28) :: [.int p1, .ref h0])) rfl ?_
        refine lv_topi (fun x29 ex29 => ?_)
        refine gMi (As := [.int p1, .int x29]) (rest := []) (f := h_goOnWith st p1 x29) ⟨hx, hb, hml, hown, hts⟩ (ch_goOnWith l dC dI cI h0 qme0 qre1 qco2 tN tB H.size st p1 x29) (cwV 2 hts (gV mL_0_122 mI_0_goOnWith mX_0_goOnWith mN_0 mB_0_goOnWith) rfl rfl rfl (by decide +kernel) ⟨Nat.le_of_ble_eq_true rfl, Nat.le_of_ble_eq_true rfl⟩) hK hP hD hS hZ rfl hl.1 rfl (Nat.le_of_ble_eq_true rfl) dX0_calculateWithNumber_39 ⟨Nat.zero_le _, Nat.zero_le _⟩ (fun z30 ez30 H locs hP hD hS => ?_)
        have hP : va_P (dC, dI) vwCl (gW cI h0 qme0 qre1 qco2 z30.2) H := hP
        have hD : va_D (gA h0 qme0 qre1 qco2 s.heap.size) (gW cI h0 qme0 qre1 qco2 z30.2) := hD
        exact gZret (v := z30.1) (u := z30.2) hx hb hr hlocks (jnb (by rw [ez30]; exact hb_goOnWith st p1 x29)) (by subst ez30 ex29 ex28 ex27 ex2 ex1; exact (((if_neg c3).trans ((if_pos c15).trans ((if_pos c20).trans rfl)))).symm) hK hP hD hS dX0_calculateWithNumber_42
theorem hb_calculateWithNumber (st : HS) (p1 : Int32) : (h_calculateWithNumber st p1).1 = 0 ∨ (h_calculateWithNumber st p1).1 = 1 := by
  unfold h_calculateWithNumber
  try dsimp only
  (repeat' split) <;> first | with_reducible exact hb_trap _ _ _ | with_reducible exact hb_refuse _ _ | with_reducible exact hb_goOn _ | with_reducible exact hb_goOnWith _ _ _ | with_reducible exact hb_jump _ _ _ | with_reducible exact hb_branch _ _ | with_reducible exact hb_load _ _ | with_reducible exact hb_store _ _ | exact Or.inl rfl | exact Or.inr rfl

def h_calculateWithRegister (st : HS) (p1 : Int32) : Int32 × HS :=
  let x1 : Int32 := h_fOf p1
  let x2 : Int32 := h_gOf p1
  let x3 : Int32 := h_aOf st p1
  let x4 : Int32 := h_bOf st p1
  if x2 = 0 then
    let x25 : Int32 := h_calculate x1 x3 x4
    let z26 : Int32 × HS := h_goOnWith st p1 x25
    z26
  else
    if x2 = (1 : Int32) then
      if (4 : Int32) ≤ x1 then
        let x21 : Int32 := h_divide x1 x3 x4
        let z22 : Int32 × HS := h_goOnWith st p1 x21
        z22
      else
        let x23 : Int32 := h_multiply x1 x3 x4
        let z24 : Int32 × HS := h_goOnWith st p1 x23
        z24
    else
      if x2 = (32 : Int32) then
        if x1 = 0 then
          let z19 : Int32 × HS := h_goOnWith st p1 (x3 - x4)
          z19
        else
          if x2 = (32 : Int32) then
            if x1 = (5 : Int32) then
              let z18 : Int32 × HS := h_goOnWith st p1 (x3 >>> ((x4 &&& (31 : Int32)) &&& 31))
              z18
            else
              let z17 : Int32 × HS := h_refuse st p1
              z17
          else
            let z15 : Int32 × HS := h_refuse st p1
            z15
      else
        if x2 = (32 : Int32) then
          if x1 = (5 : Int32) then
            let z12 : Int32 × HS := h_goOnWith st p1 (x3 >>> ((x4 &&& (31 : Int32)) &&& 31))
            z12
          else
            let z11 : Int32 × HS := h_refuse st p1
            z11
        else
          let z9 : Int32 × HS := h_refuse st p1
          z9
set_option maxHeartbeats 4000000 in
set_option maxRecDepth 100000 in
theorem ch_calculateWithRegister (l : Launch) (dC : Nat → ClassId) (dI : Nat → Nat → Nat) (cI h0 qme0 qre1 qco2 tN tB : Nat) (sz : Nat) (st : HS) (p1 : Int32)  : Met l yX0_calculateWithRegister (.code yX0_calculateWithRegister cX0_calculateWithRegister 6 (some .boolean) :: gBIG) ({ frames := 2, cells := 0, slots := 0, locals := 45 }) (va_Pc [.ref h0, .int p1] (gPre dC dI cI h0 qme0 qre1 qco2 tN tB sz st)) (va_Qi (fun r v => (r, v) = h_calculateWithRegister st p1) (gB dC dI cI h0 qme0 qre1 qco2 (gA h0 qme0 qre1 qco2 sz)) (gA h0 qme0 qre1 qco2 sz)) 0 0 (gA h0 qme0 qre1 qco2 sz) := by
  refine Met.ofW (cc := cX0_calculateWithRegister) (maxL := 6) (ret := (some .boolean)) (by decide) rfl ?_
  intro p e s m args below meth c s₁ B hml hv
  obtain ⟨rfl, hsz, hP, hK, hD0, hZ⟩ := hv
  have hx := B.exec
  have hb := B.bytes
  have hr := B.returns
  have hts : ∀ w ∈ gBIG, w.before _ s = true := fun w h => atoms_spec (ws := (.code yX0_calculateWithRegister cX0_calculateWithRegister 6 (some .boolean) :: gBIG)) B.pre w (List.mem_cons_of_mem _ h)
  have hown : s.vm.findClass "PagedHart" = some m.cls := findClass_of_methodNamed B.named
  have hlocks := B.notSynchronized
  subst hsz
  have hD : va_D (gA h0 qme0 qre1 qco2 s.heap.size) (gW cI h0 qme0 qre1 qco2 st) := gD hD0
  have hS : va_S (gA h0 qme0 qre1 qco2 s.heap.size) s.heap s.heap [] := va_S.rf
  have hP : va_P (dC, dI) vwCl (gW cI h0 qme0 qre1 qco2 st) s.heap := hP
  have hl := lv_entry ([.ref h0, .int p1]) (n := 6) (Nat.le_of_ble_eq_true rfl)
  rw [lg_entry_eq]
  generalize (lg_sl ([.ref h0, .int p1]) ++ List.replicate (6 - (lg_sl ([.ref h0, .int p1])).length) Slot.unset).toArray = ls at hl ⊢
  refine jgo (P := fun H locs => va_P (dC, dI) vwCl (gW cI h0 qme0 qre1 qco2 st) H ∧ va_S (gA h0 qme0 qre1 qco2 s.heap.size) s.heap H locs) ⟨hP, hS⟩ (fun H locs hPS => ?_)
  obtain ⟨hP, hS⟩ := hPS
  have hl : lv_has ls 6 [(0, .ref h0), (1, .int p1)] := hl
  refine lv_iload_n hx hb dX0_calculateWithRegister_0 rfl (lv_at hl 1 rfl) ?_
  refine W.callR (W.runS (As := [.int p1]) (rest := []) ⟨hx, hb, hml, hown, hts⟩ (ch_fOf l p1) (cwS 1 hts (gS mL_0_131 mS_0_fOf mN_0 mB_0_fOf) rfl rfl rfl (by decide +kernel) ⟨Nat.le_of_ble_eq_true rfl, Nat.le_of_ble_eq_true rfl⟩) ⟨jblind, fun _ _ _ => ⟨rfl, trivial⟩⟩ rfl rfl hl.1 rfl (lv_room (Nat.le_of_ble_eq_true rfl)) dX0_calculateWithRegister_1 ⟨Nat.zero_le _, Nat.zero_le _⟩) ?_
  refine W.eq (g2 := F0 m 4 ls (.int (h_fOf p1) :: [])) rfl ?_
  refine lv_topi (fun x1 ex1 => ?_)
  refine lv_istore_n (lv' := [(2, .int x1), (0, .ref h0), (1, .int p1)]) hx hb dX0_calculateWithRegister_4 rfl hl (by decide) rfl (fun ls hl => ?_)
  refine lv_iload_n hx hb dX0_calculateWithRegister_5 rfl (lv_at hl 2 rfl) ?_
  refine W.callR (W.runS (As := [.int p1]) (rest := []) ⟨hx, hb, hml, hown, hts⟩ (ch_gOf l p1) (cwS 1 hts (gS mL_0_186 mS_0_gOf mN_0 mB_0_gOf) rfl rfl rfl (by decide +kernel) ⟨Nat.le_of_ble_eq_true rfl, Nat.le_of_ble_eq_true rfl⟩) ⟨jblind, fun _ _ _ => ⟨rfl, trivial⟩⟩ rfl rfl hl.1 rfl (lv_room (Nat.le_of_ble_eq_true rfl)) dX0_calculateWithRegister_6 ⟨Nat.zero_le _, Nat.zero_le _⟩) ?_
  refine W.eq (g2 := F0 m 9 ls (.int (h_gOf p1) :: [])) rfl ?_
  refine lv_topi (fun x2 ex2 => ?_)
  refine lv_istore_n (lv' := [(3, .int x2), (2, .int x1), (0, .ref h0), (1, .int p1)]) hx hb dX0_calculateWithRegister_9 rfl hl (by decide) rfl (fun ls hl => ?_)
  refine lv_aload_n hx hb dX0_calculateWithRegister_10 rfl (lv_at hl 2 rfl) ?_
  refine lv_iload_n hx hb dX0_calculateWithRegister_11 rfl (lv_at hl 3 rfl) ?_
  refine gR (As := [.int p1]) (rest := []) (f := h_aOf st p1) ⟨hx, hb, hml, hown, hts⟩ (ch_aOf l dC dI cI h0 qme0 qre1 qco2 tN tB H.size st p1) (cwV 1 hts (gV mL_0_134 mI_0_aOf mX_0_aOf mN_0 mB_0_aOf) rfl rfl rfl (by decide +kernel) ⟨Nat.le_of_ble_eq_true rfl, Nat.le_of_ble_eq_true rfl⟩) hK hP hD hS hZ rfl hl.1 rfl (Nat.le_of_ble_eq_true rfl) dX0_calculateWithRegister_12 ⟨Nat.zero_le _, Nat.zero_le _⟩ ?_
  refine lv_topi (fun x3 ex3 => ?_)
  refine lv_istore (lv' := [(4, .int x3), (3, .int x2), (2, .int x1), (0, .ref h0), (1, .int p1)]) hx hb dX0_calculateWithRegister_15 hl (by decide) rfl (fun ls hl => ?_)
  refine lv_aload_n hx hb dX0_calculateWithRegister_17 rfl (lv_at hl 3 rfl) ?_
  refine lv_iload_n hx hb dX0_calculateWithRegister_18 rfl (lv_at hl 4 rfl) ?_
  refine gR (As := [.int p1]) (rest := []) (f := h_bOf st p1) ⟨hx, hb, hml, hown, hts⟩ (ch_bOf l dC dI cI h0 qme0 qre1 qco2 tN tB H.size st p1) (cwV 1 hts (gV mL_0_161 mI_0_bOf mX_0_bOf mN_0 mB_0_bOf) rfl rfl rfl (by decide +kernel) ⟨Nat.le_of_ble_eq_true rfl, Nat.le_of_ble_eq_true rfl⟩) hK hP hD hS hZ rfl hl.1 rfl (Nat.le_of_ble_eq_true rfl) dX0_calculateWithRegister_19 ⟨Nat.zero_le _, Nat.zero_le _⟩ ?_
  refine lv_topi (fun x4 ex4 => ?_)
  refine lv_istore (lv' := [(5, .int x4), (4, .int x3), (3, .int x2), (2, .int x1), (0, .ref h0), (1, .int p1)]) hx hb dX0_calculateWithRegister_22 hl (by decide) rfl (fun ls hl => ?_)
  refine lv_iload_n hx hb dX0_calculateWithRegister_24 rfl (lv_at hl 2 rfl) ?_
  refine lv_if_ne (tgt := 42) hx hb dX0_calculateWithRegister_25 (by decide) (fun c5 => ?_) (fun c5 => ?_)
  · refine lv_iload_n hx hb dX0_calculateWithRegister_42 rfl (lv_at hl 2 rfl) ?_
    refine lv_iconst (v := 1) hx hb dX0_calculateWithRegister_43 (by decide) ?_
    refine lv_icmp_ne (tgt := 77) hx hb dX0_calculateWithRegister_44 (by decide) (fun c6 => ?_) (fun c6 => ?_)
    · refine lv_iload_n hx hb dX0_calculateWithRegister_77 rfl (lv_at hl 2 rfl) ?_
      refine lv_bipush (v := 32) hx hb dX0_calculateWithRegister_78 (by decide) ?_
      refine lv_icmp_ne (tgt := 98) hx hb dX0_calculateWithRegister_80 (by decide) (fun c7 => ?_) (fun c7 => ?_)
      · refine lv_iload_n hx hb dX0_calculateWithRegister_98 rfl (lv_at hl 2 rfl) ?_
        refine lv_bipush (v := 32) hx hb dX0_calculateWithRegister_99 (by decide) ?_
        refine lv_icmp_ne (tgt := 123) hx hb dX0_calculateWithRegister_101 (by decide) (fun c8 => ?_) (fun c8 => ?_)
        · refine lv_aload_n hx hb dX0_calculateWithRegister_123 rfl (lv_at hl 4 rfl) ?_
          refine lv_iload_n hx hb dX0_calculateWithRegister_124 rfl (lv_at hl 5 rfl) ?_
          refine gMi (As := [.int p1]) (rest := []) (f := h_refuse st p1) ⟨hx, hb, hml, hown, hts⟩ (ch_refuse l dC dI cI h0 qme0 qre1 qco2 tN tB H.size st p1) (cwV 1 hts (gV mL_0_140 mI_0_refuse mX_0_refuse mN_0 mB_0_refuse) rfl rfl rfl (by decide +kernel) ⟨Nat.le_of_ble_eq_true rfl, Nat.le_of_ble_eq_true rfl⟩) hK hP hD hS hZ rfl hl.1 rfl (Nat.le_of_ble_eq_true rfl) dX0_calculateWithRegister_125 ⟨Nat.zero_le _, Nat.zero_le _⟩ (fun z9 ez9 H locs hP hD hS => ?_)
          have hP : va_P (dC, dI) vwCl (gW cI h0 qme0 qre1 qco2 z9.2) H := hP
          have hD : va_D (gA h0 qme0 qre1 qco2 s.heap.size) (gW cI h0 qme0 qre1 qco2 z9.2) := hD
          exact gZret (v := z9.1) (u := z9.2) hx hb hr hlocks (jnb (by rw [ez9]; exact hb_refuse st p1)) (by subst ez9 ex4 ex3 ex2 ex1; exact (((if_neg c5).trans ((if_neg c6).trans ((if_neg c7).trans ((if_neg c8).trans rfl))))).symm) hK hP hD hS dX0_calculateWithRegister_128
        · refine lv_iload_n hx hb dX0_calculateWithRegister_104 rfl (lv_at hl 3 rfl) ?_
          refine lv_iconst (v := 5) hx hb dX0_calculateWithRegister_105 (by decide) ?_
          refine lv_icmp_ne (tgt := 123) hx hb dX0_calculateWithRegister_106 (by decide) (fun c10 => ?_) (fun c10 => ?_)
          · refine lv_aload_n hx hb dX0_calculateWithRegister_123 rfl (lv_at hl 4 rfl) ?_
            refine lv_iload_n hx hb dX0_calculateWithRegister_124 rfl (lv_at hl 5 rfl) ?_
            refine gMi (As := [.int p1]) (rest := []) (f := h_refuse st p1) ⟨hx, hb, hml, hown, hts⟩ (ch_refuse l dC dI cI h0 qme0 qre1 qco2 tN tB H.size st p1) (cwV 1 hts (gV mL_0_140 mI_0_refuse mX_0_refuse mN_0 mB_0_refuse) rfl rfl rfl (by decide +kernel) ⟨Nat.le_of_ble_eq_true rfl, Nat.le_of_ble_eq_true rfl⟩) hK hP hD hS hZ rfl hl.1 rfl (Nat.le_of_ble_eq_true rfl) dX0_calculateWithRegister_125 ⟨Nat.zero_le _, Nat.zero_le _⟩ (fun z11 ez11 H locs hP hD hS => ?_)
            have hP : va_P (dC, dI) vwCl (gW cI h0 qme0 qre1 qco2 z11.2) H := hP
            have hD : va_D (gA h0 qme0 qre1 qco2 s.heap.size) (gW cI h0 qme0 qre1 qco2 z11.2) := hD
            exact gZret (v := z11.1) (u := z11.2) hx hb hr hlocks (jnb (by rw [ez11]; exact hb_refuse st p1)) (by subst ez11 ex4 ex3 ex2 ex1; exact (((if_neg c5).trans ((if_neg c6).trans ((if_neg c7).trans ((if_pos c8).trans ((if_neg c10).trans rfl)))))).symm) hK hP hD hS dX0_calculateWithRegister_128
          · refine lv_aload_n hx hb dX0_calculateWithRegister_109 rfl (lv_at hl 4 rfl) ?_
            refine lv_iload_n hx hb dX0_calculateWithRegister_110 rfl (lv_at hl 5 rfl) ?_
            refine lv_iload hx hb dX0_calculateWithRegister_111 (lv_at hl 1 rfl) ?_
            refine lv_iload hx hb dX0_calculateWithRegister_113 (lv_at hl 0 rfl) ?_
            refine lv_bipush (v := 31) hx hb dX0_calculateWithRegister_115 (by decide) ?_
            refine lv_iand hx hb dX0_calculateWithRegister_117 ?_
            refine lv_ishr hx hb dX0_calculateWithRegister_118 ?_
            refine gMi (As := [.int p1, .int (x3 >>> ((x4 &&& (31 : Int32)) &&& 31))]) (rest := []) (f := h_goOnWith st p1 (x3 >>> ((x4 &&& (31 : Int32)) &&& 31))) ⟨hx, hb, hml, hown, hts⟩ (ch_goOnWith l dC dI cI h0 qme0 qre1 qco2 tN tB H.size st p1 (x3 >>> ((x4 &&& (31 : Int32)) &&& 31))) (cwV 2 hts (gV mL_0_122 mI_0_goOnWith mX_0_goOnWith mN_0 mB_0_goOnWith) rfl rfl rfl (by decide +kernel) ⟨Nat.le_of_ble_eq_true rfl, Nat.le_of_ble_eq_true rfl⟩) hK hP hD hS hZ rfl hl.1 rfl (Nat.le_of_ble_eq_true rfl) dX0_calculateWithRegister_119 ⟨Nat.zero_le _, Nat.zero_le _⟩ (fun z12 ez12 H locs hP hD hS => ?_)
            have hP : va_P (dC, dI) vwCl (gW cI h0 qme0 qre1 qco2 z12.2) H := hP
            have hD : va_D (gA h0 qme0 qre1 qco2 s.heap.size) (gW cI h0 qme0 qre1 qco2 z12.2) := hD
            exact gZret (v := z12.1) (u := z12.2) hx hb hr hlocks (jnb (by rw [ez12]; exact hb_goOnWith st p1 (x3 >>> ((x4 &&& (31 : Int32)) &&& 31)))) (by subst ez12 ex4 ex3 ex2 ex1; exact (((if_neg c5).trans ((if_neg c6).trans ((if_neg c7).trans ((if_pos c8).trans ((if_pos c10).trans rfl)))))).symm) hK hP hD hS dX0_calculateWithRegister_122
      · refine lv_iload_n hx hb dX0_calculateWithRegister_83 rfl (lv_at hl 3 rfl) ?_
        refine lv_if_ne (tgt := 98) hx hb dX0_calculateWithRegister_84 (by decide) (fun c13 => ?_) (fun c13 => ?_)
        · refine lv_iload_n hx hb dX0_calculateWithRegister_98 rfl (lv_at hl 2 rfl) ?_
          refine lv_bipush (v := 32) hx hb dX0_calculateWithRegister_99 (by decide) ?_
          refine lv_icmp_ne (tgt := 123) hx hb dX0_calculateWithRegister_101 (by decide) (fun c14 => ?_) (fun c14 => ?_)
          · refine lv_aload_n hx hb dX0_calculateWithRegister_123 rfl (lv_at hl 4 rfl) ?_
            refine lv_iload_n hx hb dX0_calculateWithRegister_124 rfl (lv_at hl 5 rfl) ?_
            refine gMi (As := [.int p1]) (rest := []) (f := h_refuse st p1) ⟨hx, hb, hml, hown, hts⟩ (ch_refuse l dC dI cI h0 qme0 qre1 qco2 tN tB H.size st p1) (cwV 1 hts (gV mL_0_140 mI_0_refuse mX_0_refuse mN_0 mB_0_refuse) rfl rfl rfl (by decide +kernel) ⟨Nat.le_of_ble_eq_true rfl, Nat.le_of_ble_eq_true rfl⟩) hK hP hD hS hZ rfl hl.1 rfl (Nat.le_of_ble_eq_true rfl) dX0_calculateWithRegister_125 ⟨Nat.zero_le _, Nat.zero_le _⟩ (fun z15 ez15 H locs hP hD hS => ?_)
            have hP : va_P (dC, dI) vwCl (gW cI h0 qme0 qre1 qco2 z15.2) H := hP
            have hD : va_D (gA h0 qme0 qre1 qco2 s.heap.size) (gW cI h0 qme0 qre1 qco2 z15.2) := hD
            exact gZret (v := z15.1) (u := z15.2) hx hb hr hlocks (jnb (by rw [ez15]; exact hb_refuse st p1)) (by subst ez15 ex4 ex3 ex2 ex1; exact (((if_neg c5).trans ((if_neg c6).trans ((if_pos c7).trans ((if_neg c13).trans ((if_neg c14).trans rfl)))))).symm) hK hP hD hS dX0_calculateWithRegister_128
          · refine lv_iload_n hx hb dX0_calculateWithRegister_104 rfl (lv_at hl 3 rfl) ?_
            refine lv_iconst (v := 5) hx hb dX0_calculateWithRegister_105 (by decide) ?_
            refine lv_icmp_ne (tgt := 123) hx hb dX0_calculateWithRegister_106 (by decide) (fun c16 => ?_) (fun c16 => ?_)
            · refine lv_aload_n hx hb dX0_calculateWithRegister_123 rfl (lv_at hl 4 rfl) ?_
              refine lv_iload_n hx hb dX0_calculateWithRegister_124 rfl (lv_at hl 5 rfl) ?_
              refine gMi (As := [.int p1]) (rest := []) (f := h_refuse st p1) ⟨hx, hb, hml, hown, hts⟩ (ch_refuse l dC dI cI h0 qme0 qre1 qco2 tN tB H.size st p1) (cwV 1 hts (gV mL_0_140 mI_0_refuse mX_0_refuse mN_0 mB_0_refuse) rfl rfl rfl (by decide +kernel) ⟨Nat.le_of_ble_eq_true rfl, Nat.le_of_ble_eq_true rfl⟩) hK hP hD hS hZ rfl hl.1 rfl (Nat.le_of_ble_eq_true rfl) dX0_calculateWithRegister_125 ⟨Nat.zero_le _, Nat.zero_le _⟩ (fun z17 ez17 H locs hP hD hS => ?_)
              have hP : va_P (dC, dI) vwCl (gW cI h0 qme0 qre1 qco2 z17.2) H := hP
              have hD : va_D (gA h0 qme0 qre1 qco2 s.heap.size) (gW cI h0 qme0 qre1 qco2 z17.2) := hD
              exact gZret (v := z17.1) (u := z17.2) hx hb hr hlocks (jnb (by rw [ez17]; exact hb_refuse st p1)) (by subst ez17 ex4 ex3 ex2 ex1; exact (((if_neg c5).trans ((if_neg c6).trans ((if_pos c7).trans ((if_neg c13).trans ((if_pos c14).trans ((if_neg c16).trans rfl))))))).symm) hK hP hD hS dX0_calculateWithRegister_128
            · refine lv_aload_n hx hb dX0_calculateWithRegister_109 rfl (lv_at hl 4 rfl) ?_
              refine lv_iload_n hx hb dX0_calculateWithRegister_110 rfl (lv_at hl 5 rfl) ?_
              refine lv_iload hx hb dX0_calculateWithRegister_111 (lv_at hl 1 rfl) ?_
              refine lv_iload hx hb dX0_calculateWithRegister_113 (lv_at hl 0 rfl) ?_
              refine lv_bipush (v := 31) hx hb dX0_calculateWithRegister_115 (by decide) ?_
              refine lv_iand hx hb dX0_calculateWithRegister_117 ?_
              refine lv_ishr hx hb dX0_calculateWithRegister_118 ?_
              refine gMi (As := [.int p1, .int (x3 >>> ((x4 &&& (31 : Int32)) &&& 31))]) (rest := []) (f := h_goOnWith st p1 (x3 >>> ((x4 &&& (31 : Int32)) &&& 31))) ⟨hx, hb, hml, hown, hts⟩ (ch_goOnWith l dC dI cI h0 qme0 qre1 qco2 tN tB H.size st p1 (x3 >>> ((x4 &&& (31 : Int32)) &&& 31))) (cwV 2 hts (gV mL_0_122 mI_0_goOnWith mX_0_goOnWith mN_0 mB_0_goOnWith) rfl rfl rfl (by decide +kernel) ⟨Nat.le_of_ble_eq_true rfl, Nat.le_of_ble_eq_true rfl⟩) hK hP hD hS hZ rfl hl.1 rfl (Nat.le_of_ble_eq_true rfl) dX0_calculateWithRegister_119 ⟨Nat.zero_le _, Nat.zero_le _⟩ (fun z18 ez18 H locs hP hD hS => ?_)
              have hP : va_P (dC, dI) vwCl (gW cI h0 qme0 qre1 qco2 z18.2) H := hP
              have hD : va_D (gA h0 qme0 qre1 qco2 s.heap.size) (gW cI h0 qme0 qre1 qco2 z18.2) := hD
              exact gZret (v := z18.1) (u := z18.2) hx hb hr hlocks (jnb (by rw [ez18]; exact hb_goOnWith st p1 (x3 >>> ((x4 &&& (31 : Int32)) &&& 31)))) (by subst ez18 ex4 ex3 ex2 ex1; exact (((if_neg c5).trans ((if_neg c6).trans ((if_pos c7).trans ((if_neg c13).trans ((if_pos c14).trans ((if_pos c16).trans rfl))))))).symm) hK hP hD hS dX0_calculateWithRegister_122
        · refine lv_aload_n hx hb dX0_calculateWithRegister_87 rfl (lv_at hl 4 rfl) ?_
          refine lv_iload_n hx hb dX0_calculateWithRegister_88 rfl (lv_at hl 5 rfl) ?_
          refine lv_iload hx hb dX0_calculateWithRegister_89 (lv_at hl 1 rfl) ?_
          refine lv_iload hx hb dX0_calculateWithRegister_91 (lv_at hl 0 rfl) ?_
          refine lv_isub hx hb dX0_calculateWithRegister_93 ?_
          refine gMi (As := [.int p1, .int (x3 - x4)]) (rest := []) (f := h_goOnWith st p1 (x3 - x4)) ⟨hx, hb, hml, hown, hts⟩ (ch_goOnWith l dC dI cI h0 qme0 qre1 qco2 tN tB H.size st p1 (x3 - x4)) (cwV 2 hts (gV mL_0_122 mI_0_goOnWith mX_0_goOnWith mN_0 mB_0_goOnWith) rfl rfl rfl (by decide +kernel) ⟨Nat.le_of_ble_eq_true rfl, Nat.le_of_ble_eq_true rfl⟩) hK hP hD hS hZ rfl hl.1 rfl (Nat.le_of_ble_eq_true rfl) dX0_calculateWithRegister_94 ⟨Nat.zero_le _, Nat.zero_le _⟩ (fun z19 ez19 H locs hP hD hS => ?_)
          have hP : va_P (dC, dI) vwCl (gW cI h0 qme0 qre1 qco2 z19.2) H := hP
          have hD : va_D (gA h0 qme0 qre1 qco2 s.heap.size) (gW cI h0 qme0 qre1 qco2 z19.2) := hD
          exact gZret (v := z19.1) (u := z19.2) hx hb hr hlocks (jnb (by rw [ez19]; exact hb_goOnWith st p1 (x3 - x4))) (by subst ez19 ex4 ex3 ex2 ex1; exact (((if_neg c5).trans ((if_neg c6).trans ((if_pos c7).trans ((if_pos c13).trans rfl))))).symm) hK hP hD hS dX0_calculateWithRegister_97
    · refine lv_aload_n hx hb dX0_calculateWithRegister_47 rfl (lv_at hl 4 rfl) ?_
      refine lv_iload_n hx hb dX0_calculateWithRegister_48 rfl (lv_at hl 5 rfl) ?_
      refine lv_iload_n hx hb dX0_calculateWithRegister_49 rfl (lv_at hl 3 rfl) ?_
      refine lv_iconst (v := 4) hx hb dX0_calculateWithRegister_50 (by decide) ?_
      refine lv_icmp_ge (tgt := 65) hx hb dX0_calculateWithRegister_51 (by decide) (fun c20 => ?_) (fun c20 => ?_)
      · refine lv_iload_n hx hb dX0_calculateWithRegister_65 rfl (lv_at hl 3 rfl) ?_
        refine lv_iload hx hb dX0_calculateWithRegister_66 (lv_at hl 1 rfl) ?_
        refine lv_iload hx hb dX0_calculateWithRegister_68 (lv_at hl 0 rfl) ?_
        refine W.callR (W.runS (As := [.int x1, .int x3, .int x4]) (rest := [.int p1, .ref h0]) ⟨hx, hb, hml, hown, hts⟩ (ch_divide l x1 x3 x4) (cwS 3 hts (gS mL_0_195 mS_0_divide mN_0 mB_0_divide) rfl rfl rfl (by decide +kernel) ⟨Nat.le_of_ble_eq_true rfl, Nat.le_of_ble_eq_true rfl⟩) ⟨jblind, fun _ _ _ => ⟨rfl, trivial⟩⟩ rfl rfl hl.1 rfl (lv_room (Nat.le_of_ble_eq_true rfl)) dX0_calculateWithRegister_70 ⟨Nat.zero_le _, Nat.zero_le _⟩) ?_
        refine W.eq (g2 := F0 m 73 ls (.int (h_divide x1 x3 x4) :: [.int p1, .ref h0])) rfl ?_
        refine lv_topi (fun x21 ex21 => ?_)
        refine gMi (As := [.int p1, .int x21]) (rest := []) (f := h_goOnWith st p1 x21) ⟨hx, hb, hml, hown, hts⟩ (ch_goOnWith l dC dI cI h0 qme0 qre1 qco2 tN tB H.size st p1 x21) (cwV 2 hts (gV mL_0_122 mI_0_goOnWith mX_0_goOnWith mN_0 mB_0_goOnWith) rfl rfl rfl (by decide +kernel) ⟨Nat.le_of_ble_eq_true rfl, Nat.le_of_ble_eq_true rfl⟩) hK hP hD hS hZ rfl hl.1 rfl (Nat.le_of_ble_eq_true rfl) dX0_calculateWithRegister_73 ⟨Nat.zero_le _, Nat.zero_le _⟩ (fun z22 ez22 H locs hP hD hS => ?_)
        have hP : va_P (dC, dI) vwCl (gW cI h0 qme0 qre1 qco2 z22.2) H := hP
        have hD : va_D (gA h0 qme0 qre1 qco2 s.heap.size) (gW cI h0 qme0 qre1 qco2 z22.2) := hD
        exact gZret (v := z22.1) (u := z22.2) hx hb hr hlocks (jnb (by rw [ez22]; exact hb_goOnWith st p1 x21)) (by subst ez22 ex21 ex4 ex3 ex2 ex1; exact (((if_neg c5).trans ((if_pos c6).trans ((if_pos c20).trans rfl)))).symm) hK hP hD hS dX0_calculateWithRegister_76
      · refine lv_iload_n hx hb dX0_calculateWithRegister_54 rfl (lv_at hl 3 rfl) ?_
        refine lv_iload hx hb dX0_calculateWithRegister_55 (lv_at hl 1 rfl) ?_
        refine lv_iload hx hb dX0_calculateWithRegister_57 (lv_at hl 0 rfl) ?_
        refine W.callR (W.runS (As := [.int x1, .int x3, .int x4]) (rest := [.int p1, .ref h0]) ⟨hx, hb, hml, hown, hts⟩ (ch_multiply l x1 x3 x4) (cwS 3 hts (gS mL_0_192 mS_0_multiply mN_0 mB_0_multiply) rfl rfl rfl (by decide +kernel) ⟨Nat.le_of_ble_eq_true rfl, Nat.le_of_ble_eq_true rfl⟩) ⟨jblind, fun _ _ _ => ⟨rfl, trivial⟩⟩ rfl rfl hl.1 rfl (lv_room (Nat.le_of_ble_eq_true rfl)) dX0_calculateWithRegister_59 ⟨Nat.zero_le _, Nat.zero_le _⟩) ?_
        refine W.eq (g2 := F0 m 62 ls (.int (h_multiply x1 x3 x4) :: [.int p1, .ref h0])) rfl ?_
        refine lv_topi (fun x23 ex23 => ?_)
        refine lv_goto (tgt := 73) hx hb dX0_calculateWithRegister_62 (by decide) ?_
        refine gMi (As := [.int p1, .int x23]) (rest := []) (f := h_goOnWith st p1 x23) ⟨hx, hb, hml, hown, hts⟩ (ch_goOnWith l dC dI cI h0 qme0 qre1 qco2 tN tB H.size st p1 x23) (cwV 2 hts (gV mL_0_122 mI_0_goOnWith mX_0_goOnWith mN_0 mB_0_goOnWith) rfl rfl rfl (by decide +kernel) ⟨Nat.le_of_ble_eq_true rfl, Nat.le_of_ble_eq_true rfl⟩) hK hP hD hS hZ rfl hl.1 rfl (Nat.le_of_ble_eq_true rfl) dX0_calculateWithRegister_73 ⟨Nat.zero_le _, Nat.zero_le _⟩ (fun z24 ez24 H locs hP hD hS => ?_)
        have hP : va_P (dC, dI) vwCl (gW cI h0 qme0 qre1 qco2 z24.2) H := hP
        have hD : va_D (gA h0 qme0 qre1 qco2 s.heap.size) (gW cI h0 qme0 qre1 qco2 z24.2) := hD
        exact gZret (v := z24.1) (u := z24.2) hx hb hr hlocks (jnb (by rw [ez24]; exact hb_goOnWith st p1 x23)) (by subst ez24 ex23 ex4 ex3 ex2 ex1; exact (((if_neg c5).trans ((if_pos c6).trans ((if_neg c20).trans rfl)))).symm) hK hP hD hS dX0_calculateWithRegister_76
  · refine lv_aload_n hx hb dX0_calculateWithRegister_28 rfl (lv_at hl 4 rfl) ?_
    refine lv_iload_n hx hb dX0_calculateWithRegister_29 rfl (lv_at hl 5 rfl) ?_
    refine lv_iload_n hx hb dX0_calculateWithRegister_30 rfl (lv_at hl 3 rfl) ?_
    refine lv_iload hx hb dX0_calculateWithRegister_31 (lv_at hl 1 rfl) ?_
    refine lv_iload hx hb dX0_calculateWithRegister_33 (lv_at hl 0 rfl) ?_
    refine W.callR (W.runS (As := [.int x1, .int x3, .int x4]) (rest := [.int p1, .ref h0]) ⟨hx, hb, hml, hown, hts⟩ (ch_calculate l x1 x3 x4) (cwS 3 hts (gS mL_0_189 mS_0_calculate mN_0 mB_0_calculate) rfl rfl rfl (by decide +kernel) ⟨Nat.le_of_ble_eq_true rfl, Nat.le_of_ble_eq_true rfl⟩) ⟨jblind, fun _ _ _ => ⟨rfl, trivial⟩⟩ rfl rfl hl.1 rfl (lv_room (Nat.le_of_ble_eq_true rfl)) dX0_calculateWithRegister_35 ⟨Nat.zero_le _, Nat.zero_le _⟩) ?_
    refine W.eq (g2 := F0 m 38 ls (.int (h_calculate x1 x3 x4) :: [.int p1, .ref h0])) rfl ?_
    refine lv_topi (fun x25 ex25 => ?_)
    refine gMi (As := [.int p1, .int x25]) (rest := []) (f := h_goOnWith st p1 x25) ⟨hx, hb, hml, hown, hts⟩ (ch_goOnWith l dC dI cI h0 qme0 qre1 qco2 tN tB H.size st p1 x25) (cwV 2 hts (gV mL_0_122 mI_0_goOnWith mX_0_goOnWith mN_0 mB_0_goOnWith) rfl rfl rfl (by decide +kernel) ⟨Nat.le_of_ble_eq_true rfl, Nat.le_of_ble_eq_true rfl⟩) hK hP hD hS hZ rfl hl.1 rfl (Nat.le_of_ble_eq_true rfl) dX0_calculateWithRegister_38 ⟨Nat.zero_le _, Nat.zero_le _⟩ (fun z26 ez26 H locs hP hD hS => ?_)
    have hP : va_P (dC, dI) vwCl (gW cI h0 qme0 qre1 qco2 z26.2) H := hP
    have hD : va_D (gA h0 qme0 qre1 qco2 s.heap.size) (gW cI h0 qme0 qre1 qco2 z26.2) := hD
    exact gZret (v := z26.1) (u := z26.2) hx hb hr hlocks (jnb (by rw [ez26]; exact hb_goOnWith st p1 x25)) (by subst ez26 ex25 ex4 ex3 ex2 ex1; exact (((if_pos c5).trans rfl)).symm) hK hP hD hS dX0_calculateWithRegister_41
theorem hb_calculateWithRegister (st : HS) (p1 : Int32) : (h_calculateWithRegister st p1).1 = 0 ∨ (h_calculateWithRegister st p1).1 = 1 := by
  unfold h_calculateWithRegister
  try dsimp only
  (repeat' split) <;> first | with_reducible exact hb_trap _ _ _ | with_reducible exact hb_refuse _ _ | with_reducible exact hb_goOn _ | with_reducible exact hb_goOnWith _ _ _ | with_reducible exact hb_jump _ _ _ | with_reducible exact hb_branch _ _ | with_reducible exact hb_load _ _ | with_reducible exact hb_store _ _ | with_reducible exact hb_calculateWithNumber _ _ | exact Or.inl rfl | exact Or.inr rfl
