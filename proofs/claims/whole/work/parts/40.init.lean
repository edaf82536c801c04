/-! the constructors -/
def h_new : HS := ((fun _ => (0 : Int32)), (fun _ => (0 : Int32)), (upd (upd (fun _ => (0 : Int32)) (7 : Int32).toNatClampNeg (-1)) (8 : Int32).toNatClampNeg (-1)), 0, 1, 0)
def r_new : RS := (0, (fun _ => (0 : Int32)), (fun _ => (0 : Int32)), 0, 1, 0, 0, 0, 0, 0, 0, 0, -1, -1, 0, 0, 0, 0)
set_option maxHeartbeats 4000000 in
set_option maxRecDepth 100000 in
theorem ci_h (l : Launch) (dC : Nat → ClassId) (dI : Nat → Nat → Nat) (h0 sz : Nat) : Met l yX0_init (.code yX0_init cX0_init 1 none :: gBIG) ({ frames := 1, cells := 3, slots := 65577, locals := 12 }) (va_Pc [.ref h0] (fun U => U.heap.size = sz ∧ va_P (dC, dI) vwCl [(h0, .inr (0, [.null, .null, .null, .int 0, .int 0, .int 0]))] U.heap ∧ va_K (dC, dI) vwCl [] U ∧ va_D (fun _ => True) [(h0, .inr (0, [.null, .null, .null, .int 0, .int 0, .int 0]))])) (va_Qv (fun u : HS => u = h_new) (fun u t => ∃ (cI q0 q1 q2 : Nat), va_P (dC, dI) vwCl (gW cI h0 q0 q1 q2 u) t.heap ∧ va_K (dC, dI) vwCl [(cI, .int)] t ∧ va_D (va_A [(h0, .inr (0, [.null, .null, .null, .int 0, .int 0, .int 0]))] sz) (gW cI h0 q0 q1 q2 u)) (va_A [(h0, .inr (0, [.null, .null, .null, .int 0, .int 0, .int 0]))] sz)) 3 65577 (va_A [(h0, .inr (0, [.null, .null, .null, .int 0, .int 0, .int 0]))] sz) := by
  refine Met.ofW (cc := cX0_init) (maxL := 1) (ret := none) (by decide) rfl ?_
  intro p e s m args below meth c s₁ B hml hv
  obtain ⟨rfl, hsz, hP, hK, hD0⟩ := hv
  have hx := B.exec
  have hb := B.bytes
  have hr := B.returns
  have hts : ∀ w ∈ gBIG, w.before _ s = true := fun w h => atoms_spec (ws := (.code yX0_init cX0_init 1 none :: gBIG)) B.pre w (List.mem_cons_of_mem _ h)
  have hown : s.vm.findClass "PagedHart" = some m.cls := findClass_of_methodNamed B.named
  have hlocks := B.notSynchronized
  have hin : meth.name = "<init>" := (name_of_methodNamed B.named B.method).1
  subst hsz
  have hD := hD0.self (sz := s.heap.size)
  generalize hAe : va_A [(h0, .inr (0, [.null, .null, .null, .int 0, .int 0, .int 0]))] s.heap.size = A at hD ⊢
  have hA : ∀ q : Nat, s.heap.size ≤ q → A q := fun q h => by rw [← hAe]; exact Or.inr h
  have hS : va_S A s.heap s.heap [] := va_S.rf
  have hP : va_P (dC, dI) vwCl [(h0, .inr (0, [.null, .null, .null, .int 0, .int 0, .int 0]))] s.heap := hP
  have hl := lv_entry ([.ref h0]) (n := 1) (Nat.le_of_ble_eq_true rfl)
  rw [lg_entry_eq]
  generalize (lg_sl ([.ref h0]) ++ List.replicate (1 - (lg_sl ([.ref h0])).length) Slot.unset).toArray = ls at hl ⊢
  have hl : lv_has ls 1 [(0, .ref h0)] := hl
  refine lv_aload_n hx hb dX0_init_0 rfl (lv_at hl 0 rfl) ?_
  refine W.objInit hx hb hown (hts _ mL_0_3) (hts _ mI_O_init) (hts _ mB_O_init) rfl (by rw [hml]; exact hl.1) rfl dX0_init_1 (Nat.le_of_ble_eq_true rfl) (Nat.le_of_ble_eq_true rfl) ?_
  refine W.eq (g2 := F0 m 4 ls []) rfl ?_
  refine lv_aload_n hx hb dX0_init_4 rfl (lv_at hl 0 rfl) ?_
  refine lv_ldc (v := 65536) hx hb hown (hts _ mC_0_9) dX0_init_5 ?_
  refine va_newa (D := (dC, dI)) (atype := .int) (ty := .int) (N' := 65536) (a0 := (65536, .inl (fun _ => (0 : Int32)))) hx hb (hts _ mA_int) rfl hK hP hD hS hA (fun cA => rfl) (by decide) (by decide) (by decide) (Nat.le_of_ble_eq_true rfl) (Nat.le_of_ble_eq_true rfl) dX0_init_7 (fun q0 c0 H hK hP hD hS => ?_)
  have hK : va_K (dC, dI) vwCl [(c0, .int)] s := hK
  have hP : va_P (dC, dI) vwCl [(h0, .inr (0, [.null, .null, .null, .int 0, .int 0, .int 0])), (q0, .inl (c0, 65536, .inl (fun _ => (0 : Int32))))] H := hP
  have hD : va_D A [(h0, .inr (0, [.null, .null, .null, .int 0, .int 0, .int 0])), (q0, .inl (c0, 65536, .inl (fun _ => (0 : Int32))))] := hD
  refine va_putF (D := (dC, dI)) (ci := 0) (v := .ref q0) (ty := .array .int) (C := "PagedHart") (T := TX0) (N := 6) hx hb hts mU0 tyX0 tyX0_ok nmX0 hown hK hP hD hS 0 rfl rfl 0 (by decide) (hts _ mF_0_10) (fun _ h9 => h9) rfl hin rfl (by decide +kernel) rfl rfl (Nat.le_of_ble_eq_true rfl) dX0_init_9 (fun H locs hP hD hS => ?_)
  have hP : va_P (dC, dI) vwCl [(h0, .inr (0, [.ref q0, .null, .null, .int 0, .int 0, .int 0])), (q0, .inl (c0, 65536, .inl (fun _ => (0 : Int32))))] H := hP
  have hD : va_D A [(h0, .inr (0, [.ref q0, .null, .null, .int 0, .int 0, .int 0])), (q0, .inl (c0, 65536, .inl (fun _ => (0 : Int32))))] := hD
  refine lv_aload_n hx hb dX0_init_12 rfl (lv_at hl 0 rfl) ?_
  refine lv_bipush (v := 32) hx hb dX0_init_13 (by decide) ?_
  refine va_newa (D := (dC, dI)) (atype := .int) (ty := .int) (N' := 32) (a0 := (32, .inl (fun _ => (0 : Int32)))) hx hb (hts _ mA_int) rfl hK hP hD hS hA (fun cA => rfl) (by decide) (by decide) (by decide) (Nat.le_of_ble_eq_true rfl) (Nat.le_of_ble_eq_true rfl) dX0_init_15 (fun q1 c1 H hK hP hD hS => ?_)
  have hK : va_K (dC, dI) vwCl [(c0, .int), (c1, .int)] s := hK
  have ec : c1 = c0 := Option.some.inj ((va_nm_int (hK.2 1 _ rfl).2).symm.trans (va_nm_int (hK.2 0 _ rfl).2))
  rw [ec] at hP hD
  have hK := hK.sub (tys' := [(c0, .int)]) [0] rfl
  have hP : va_P (dC, dI) vwCl [(h0, .inr (0, [.ref q0, .null, .null, .int 0, .int 0, .int 0])), (q0, .inl (c0, 65536, .inl (fun _ => (0 : Int32)))), (q1, .inl (c0, 32, .inl (fun _ => (0 : Int32))))] H := hP
  have hD : va_D A [(h0, .inr (0, [.ref q0, .null, .null, .int 0, .int 0, .int 0])), (q0, .inl (c0, 65536, .inl (fun _ => (0 : Int32)))), (q1, .inl (c0, 32, .inl (fun _ => (0 : Int32))))] := hD
  refine va_putF (D := (dC, dI)) (ci := 0) (v := .ref q1) (ty := .array .int) (C := "PagedHart") (T := TX0) (N := 6) hx hb hts mU0 tyX0 tyX0_ok nmX0 hown hK hP hD hS 0 rfl rfl 1 (by decide) (hts _ mF_0_14) (fun _ h9 => h9) rfl hin rfl (by decide +kernel) rfl rfl (Nat.le_of_ble_eq_true rfl) dX0_init_17 (fun H locs hP hD hS => ?_)
  have hP : va_P (dC, dI) vwCl [(h0, .inr (0, [.ref q0, .ref q1, .null, .int 0, .int 0, .int 0])), (q0, .inl (c0, 65536, .inl (fun _ => (0 : Int32)))), (q1, .inl (c0, 32, .inl (fun _ => (0 : Int32))))] H := hP
  have hD : va_D A [(h0, .inr (0, [.ref q0, .ref q1, .null, .int 0, .int 0, .int 0])), (q0, .inl (c0, 65536, .inl (fun _ => (0 : Int32)))), (q1, .inl (c0, 32, .inl (fun _ => (0 : Int32))))] := hD
  refine lv_aload_n hx hb dX0_init_20 rfl (lv_at hl 0 rfl) ?_
  refine lv_bipush (v := 9) hx hb dX0_init_21 (by decide) ?_
  refine va_newa (D := (dC, dI)) (atype := .int) (ty := .int) (N' := 9) (a0 := (9, .inl (fun _ => (0 : Int32)))) hx hb (hts _ mA_int) rfl hK hP hD hS hA (fun cA => rfl) (by decide) (by decide) (by decide) (Nat.le_of_ble_eq_true rfl) (Nat.le_of_ble_eq_true rfl) dX0_init_23 (fun q2 c2 H hK hP hD hS => ?_)
  have hK : va_K (dC, dI) vwCl [(c0, .int), (c2, .int)] s := hK
  have ec : c2 = c0 := Option.some.inj ((va_nm_int (hK.2 1 _ rfl).2).symm.trans (va_nm_int (hK.2 0 _ rfl).2))
  rw [ec] at hP hD
  have hK := hK.sub (tys' := [(c0, .int)]) [0] rfl
  have hP : va_P (dC, dI) vwCl [(h0, .inr (0, [.ref q0, .ref q1, .null, .int 0, .int 0, .int 0])), (q0, .inl (c0, 65536, .inl (fun _ => (0 : Int32)))), (q1, .inl (c0, 32, .inl (fun _ => (0 : Int32)))), (q2, .inl (c0, 9, .inl (fun _ => (0 : Int32))))] H := hP
  have hD : va_D A [(h0, .inr (0, [.ref q0, .ref q1, .null, .int 0, .int 0, .int 0])), (q0, .inl (c0, 65536, .inl (fun _ => (0 : Int32)))), (q1, .inl (c0, 32, .inl (fun _ => (0 : Int32)))), (q2, .inl (c0, 9, .inl (fun _ => (0 : Int32))))] := hD
  refine va_putF (D := (dC, dI)) (ci := 0) (v := .ref q2) (ty := .array .int) (C := "PagedHart") (T := TX0) (N := 6) hx hb hts mU0 tyX0 tyX0_ok nmX0 hown hK hP hD hS 0 rfl rfl 2 (by decide) (hts _ mF_0_17) (fun _ h9 => h9) rfl hin rfl (by decide +kernel) rfl rfl (Nat.le_of_ble_eq_true rfl) dX0_init_25 (fun H locs hP hD hS => ?_)
  have hP : va_P (dC, dI) vwCl [(h0, .inr (0, [.ref q0, .ref q1, .ref q2, .int 0, .int 0, .int 0])), (q0, .inl (c0, 65536, .inl (fun _ => (0 : Int32)))), (q1, .inl (c0, 32, .inl (fun _ => (0 : Int32)))), (q2, .inl (c0, 9, .inl (fun _ => (0 : Int32))))] H := hP
  have hD : va_D A [(h0, .inr (0, [.ref q0, .ref q1, .ref q2, .int 0, .int 0, .int 0])), (q0, .inl (c0, 65536, .inl (fun _ => (0 : Int32)))), (q1, .inl (c0, 32, .inl (fun _ => (0 : Int32)))), (q2, .inl (c0, 9, .inl (fun _ => (0 : Int32))))] := hD
  refine lv_aload_n hx hb dX0_init_28 rfl (lv_at hl 0 rfl) ?_
  refine va_get (D := (dC, dI)) (ci := 0) (v := .ref q2) (C := "PagedHart") (T := TX0) (N := 6) hx hb hts mU0 hown hK hP 0 rfl rfl 2 (by decide) (hts _ mF_0_17) (fun _ h9 => h9) rfl dX0_init_29 ?_
  refine lv_bipush (v := 7) hx hb dX0_init_32 (by decide) ?_
  refine lv_iconst (v := (-1)) hx hb dX0_init_34 (by decide) ?_
  refine va_iast (D := (dC, dI)) hx hb hK hP hD hS 3 0 rfl rfl (jin (by decide)) dX0_init_35 (fun H locs hP hD hS => ?_)
  have hP : va_P (dC, dI) vwCl [(h0, .inr (0, [.ref q0, .ref q1, .ref q2, .int 0, .int 0, .int 0])), (q0, .inl (c0, 65536, .inl (fun _ => (0 : Int32)))), (q1, .inl (c0, 32, .inl (fun _ => (0 : Int32)))), (q2, .inl (c0, 9, .inl (upd (fun _ => (0 : Int32)) (7 : Int32).toNatClampNeg (-1))))] H := hP
  have hD : va_D A [(h0, .inr (0, [.ref q0, .ref q1, .ref q2, .int 0, .int 0, .int 0])), (q0, .inl (c0, 65536, .inl (fun _ => (0 : Int32)))), (q1, .inl (c0, 32, .inl (fun _ => (0 : Int32)))), (q2, .inl (c0, 9, .inl (upd (fun _ => (0 : Int32)) (7 : Int32).toNatClampNeg (-1))))] := hD
  refine lv_aload_n hx hb dX0_init_36 rfl (lv_at hl 0 rfl) ?_
  refine va_get (D := (dC, dI)) (ci := 0) (v := .ref q2) (C := "PagedHart") (T := TX0) (N := 6) hx hb hts mU0 hown hK hP 0 rfl rfl 2 (by decide) (hts _ mF_0_17) (fun _ h9 => h9) rfl dX0_init_37 ?_
  refine lv_bipush (v := 8) hx hb dX0_init_40 (by decide) ?_
  refine lv_iconst (v := (-1)) hx hb dX0_init_42 (by decide) ?_
  refine va_iast (D := (dC, dI)) hx hb hK hP hD hS 3 0 rfl rfl (jin (by decide)) dX0_init_43 (fun H locs hP hD hS => ?_)
  have hP : va_P (dC, dI) vwCl [(h0, .inr (0, [.ref q0, .ref q1, .ref q2, .int 0, .int 0, .int 0])), (q0, .inl (c0, 65536, .inl (fun _ => (0 : Int32)))), (q1, .inl (c0, 32, .inl (fun _ => (0 : Int32)))), (q2, .inl (c0, 9, .inl (upd (upd (fun _ => (0 : Int32)) (7 : Int32).toNatClampNeg (-1)) (8 : Int32).toNatClampNeg (-1))))] H := hP
  have hD : va_D A [(h0, .inr (0, [.ref q0, .ref q1, .ref q2, .int 0, .int 0, .int 0])), (q0, .inl (c0, 65536, .inl (fun _ => (0 : Int32)))), (q1, .inl (c0, 32, .inl (fun _ => (0 : Int32)))), (q2, .inl (c0, 9, .inl (upd (upd (fun _ => (0 : Int32)) (7 : Int32).toNatClampNeg (-1)) (8 : Int32).toNatClampNeg (-1))))] := hD
  refine lv_aload_n hx hb dX0_init_44 rfl (lv_at hl 0 rfl) ?_
  refine lv_iconst (v := 0) hx hb dX0_init_45 (by decide) ?_
  refine va_put (D := (dC, dI)) (ci := 0) (v := .int 0) (ty := .int) (C := "PagedHart") (T := TX0) (N := 6) hx hb hts mU0 tyX0 tyX0_ok nmX0 hown hK hP hD hS 0 rfl rfl 3 (by decide) (hts _ mF_0_20) (fun _ h9 => h9) rfl (by decide +kernel) rfl rfl (Nat.le_of_ble_eq_true rfl) dX0_init_46 (fun H locs hP hD hS => ?_)
  have hP : va_P (dC, dI) vwCl [(h0, .inr (0, [.ref q0, .ref q1, .ref q2, .int 0, .int 0, .int 0])), (q0, .inl (c0, 65536, .inl (fun _ => (0 : Int32)))), (q1, .inl (c0, 32, .inl (fun _ => (0 : Int32)))), (q2, .inl (c0, 9, .inl (upd (upd (fun _ => (0 : Int32)) (7 : Int32).toNatClampNeg (-1)) (8 : Int32).toNatClampNeg (-1))))] H := hP
  have hD : va_D A [(h0, .inr (0, [.ref q0, .ref q1, .ref q2, .int 0, .int 0, .int 0])), (q0, .inl (c0, 65536, .inl (fun _ => (0 : Int32)))), (q1, .inl (c0, 32, .inl (fun _ => (0 : Int32)))), (q2, .inl (c0, 9, .inl (upd (upd (fun _ => (0 : Int32)) (7 : Int32).toNatClampNeg (-1)) (8 : Int32).toNatClampNeg (-1))))] := hD
  refine lv_aload_n hx hb dX0_init_49 rfl (lv_at hl 0 rfl) ?_
  refine lv_iconst (v := 1) hx hb dX0_init_50 (by decide) ?_
  refine va_put (D := (dC, dI)) (ci := 0) (v := .int 1) (ty := .int) (C := "PagedHart") (T := TX0) (N := 6) hx hb hts mU0 tyX0 tyX0_ok nmX0 hown hK hP hD hS 0 rfl rfl 4 (by decide) (hts _ mF_0_24) (fun _ h9 => h9) rfl (by decide +kernel) rfl rfl (Nat.le_of_ble_eq_true rfl) dX0_init_51 (fun H locs hP hD hS => ?_)
  have hP : va_P (dC, dI) vwCl [(h0, .inr (0, [.ref q0, .ref q1, .ref q2, .int 0, .int 1, .int 0])), (q0, .inl (c0, 65536, .inl (fun _ => (0 : Int32)))), (q1, .inl (c0, 32, .inl (fun _ => (0 : Int32)))), (q2, .inl (c0, 9, .inl (upd (upd (fun _ => (0 : Int32)) (7 : Int32).toNatClampNeg (-1)) (8 : Int32).toNatClampNeg (-1))))] H := hP
  have hD : va_D A [(h0, .inr (0, [.ref q0, .ref q1, .ref q2, .int 0, .int 1, .int 0])), (q0, .inl (c0, 65536, .inl (fun _ => (0 : Int32)))), (q1, .inl (c0, 32, .inl (fun _ => (0 : Int32)))), (q2, .inl (c0, 9, .inl (upd (upd (fun _ => (0 : Int32)) (7 : Int32).toNatClampNeg (-1)) (8 : Int32).toNatClampNeg (-1))))] := hD
  refine lv_aload_n hx hb dX0_init_54 rfl (lv_at hl 0 rfl) ?_
  refine lv_iconst (v := 0) hx hb dX0_init_55 (by decide) ?_
  refine va_put (D := (dC, dI)) (ci := 0) (v := .int 0) (ty := .boolean) (C := "PagedHart") (T := TX0) (N := 6) hx hb hts mU0 tyX0 tyX0_ok nmX0 hown hK hP hD hS 0 rfl rfl 5 (by decide) (hts _ mF_0_27) (fun _ h9 => h9) rfl (by decide +kernel) rfl rfl (Nat.le_of_ble_eq_true rfl) dX0_init_56 (fun H locs hP hD hS => ?_)
  have hP : va_P (dC, dI) vwCl [(h0, .inr (0, [.ref q0, .ref q1, .ref q2, .int 0, .int 1, .int 0])), (q0, .inl (c0, 65536, .inl (fun _ => (0 : Int32)))), (q1, .inl (c0, 32, .inl (fun _ => (0 : Int32)))), (q2, .inl (c0, 9, .inl (upd (upd (fun _ => (0 : Int32)) (7 : Int32).toNatClampNeg (-1)) (8 : Int32).toNatClampNeg (-1))))] H := hP
  have hD : va_D A [(h0, .inr (0, [.ref q0, .ref q1, .ref q2, .int 0, .int 1, .int 0])), (q0, .inl (c0, 65536, .inl (fun _ => (0 : Int32)))), (q1, .inl (c0, 32, .inl (fun _ => (0 : Int32)))), (q2, .inl (c0, 9, .inl (upd (upd (fun _ => (0 : Int32)) (7 : Int32).toNatClampNeg (-1)) (8 : Int32).toNatClampNeg (-1))))] := hD
  refine W.widen (k := 3) (n := 65577) (Nat.le_of_ble_eq_true rfl) (Nat.le_of_ble_eq_true rfl) ?_
  exact W.vret hx hb hr (fun t ht hW => ⟨⟨h_new, rfl, rfl, c0, q0, q1, q2, by rw [ht]; exact hP, va_K.moved hW.alike hK, hD⟩, hS.F ht⟩) hS.2.2 dX0_init_59 hlocks
set_option maxHeartbeats 4000000 in
set_option maxRecDepth 100000 in
theorem ci_r (l : Launch) (dC : Nat → ClassId) (dI : Nat → Nat → Nat) (h0 sz : Nat) : Met l yX1_init (.code yX1_init cX1_init 1 none :: gBIG) ({ frames := 1, cells := 2, slots := 65568, locals := 12 }) (va_Pc [.ref h0] (fun U => U.heap.size = sz ∧ va_P (dC, dI) vwCl [(h0, .inr (1, [.int 0, .null, .null, .int 0, .int 0, .int 0, .int 0, .int 0, .int 0, .int 0, .int 0, .int 0, .int 0, .int 0, .int 0, .int 0, .int 0, .int 0]))] U.heap ∧ va_K (dC, dI) vwCl [] U ∧ va_D (fun _ => True) [(h0, .inr (1, [.int 0, .null, .null, .int 0, .int 0, .int 0, .int 0, .int 0, .int 0, .int 0, .int 0, .int 0, .int 0, .int 0, .int 0, .int 0, .int 0, .int 0]))])) (va_Qv (fun u : RS => u = r_new) (fun u t => ∃ (cI q0 q1 : Nat), va_P (dC, dI) vwCl (rW cI h0 q0 q1 u) t.heap ∧ va_K (dC, dI) vwCl [(cI, .int)] t ∧ va_D (va_A [(h0, .inr (1, [.int 0, .null, .null, .int 0, .int 0, .int 0, .int 0, .int 0, .int 0, .int 0, .int 0, .int 0, .int 0, .int 0, .int 0, .int 0, .int 0, .int 0]))] sz) (rW cI h0 q0 q1 u)) (va_A [(h0, .inr (1, [.int 0, .null, .null, .int 0, .int 0, .int 0, .int 0, .int 0, .int 0, .int 0, .int 0, .int 0, .int 0, .int 0, .int 0, .int 0, .int 0, .int 0]))] sz)) 2 65568 (va_A [(h0, .inr (1, [.int 0, .null, .null, .int 0, .int 0, .int 0, .int 0, .int 0, .int 0, .int 0, .int 0, .int 0, .int 0, .int 0, .int 0, .int 0, .int 0, .int 0]))] sz) := by
  refine Met.ofW (cc := cX1_init) (maxL := 1) (ret := none) (by decide) rfl ?_
  intro p e s m args below meth c s₁ B hml hv
  obtain ⟨rfl, hsz, hP, hK, hD0⟩ := hv
  have hx := B.exec
  have hb := B.bytes
  have hr := B.returns
  have hts : ∀ w ∈ gBIG, w.before _ s = true := fun w h => atoms_spec (ws := (.code yX1_init cX1_init 1 none :: gBIG)) B.pre w (List.mem_cons_of_mem _ h)
  have hown : s.vm.findClass "PagedHartModel" = some m.cls := findClass_of_methodNamed B.named
  have hlocks := B.notSynchronized
  have hin : meth.name = "<init>" := (name_of_methodNamed B.named B.method).1
  subst hsz
  have hD := hD0.self (sz := s.heap.size)
  generalize hAe : va_A [(h0, .inr (1, [.int 0, .null, .null, .int 0, .int 0, .int 0, .int 0, .int 0, .int 0, .int 0, .int 0, .int 0, .int 0, .int 0, .int 0, .int 0, .int 0, .int 0]))] s.heap.size = A at hD ⊢
  have hA : ∀ q : Nat, s.heap.size ≤ q → A q := fun q h => by rw [← hAe]; exact Or.inr h
  have hS : va_S A s.heap s.heap [] := va_S.rf
  have hP : va_P (dC, dI) vwCl [(h0, .inr (1, [.int 0, .null, .null, .int 0, .int 0, .int 0, .int 0, .int 0, .int 0, .int 0, .int 0, .int 0, .int 0, .int 0, .int 0, .int 0, .int 0, .int 0]))] s.heap := hP
  have hl := lv_entry ([.ref h0]) (n := 1) (Nat.le_of_ble_eq_true rfl)
  rw [lg_entry_eq]
  generalize (lg_sl ([.ref h0]) ++ List.replicate (1 - (lg_sl ([.ref h0])).length) Slot.unset).toArray = ls at hl ⊢
  have hl : lv_has ls 1 [(0, .ref h0)] := hl
  refine lv_aload_n hx hb dX1_init_0 rfl (lv_at hl 0 rfl) ?_
  refine W.objInit hx hb hown (hts _ mL_1_1) (hts _ mI_O_init) (hts _ mB_O_init) rfl (by rw [hml]; exact hl.1) rfl dX1_init_1 (Nat.le_of_ble_eq_true rfl) (Nat.le_of_ble_eq_true rfl) ?_
  refine W.eq (g2 := F0 m 4 ls []) rfl ?_
  refine lv_aload_n hx hb dX1_init_4 rfl (lv_at hl 0 rfl) ?_
  refine lv_ldc (v := 65536) hx hb hown (hts _ mC_1_7) dX1_init_5 ?_
  refine va_newa (D := (dC, dI)) (atype := .int) (ty := .int) (N' := 65536) (a0 := (65536, .inl (fun _ => (0 : Int32)))) hx hb (hts _ mA_int) rfl hK hP hD hS hA (fun cA => rfl) (by decide) (by decide) (by decide) (Nat.le_of_ble_eq_true rfl) (Nat.le_of_ble_eq_true rfl) dX1_init_7 (fun q0 c0 H hK hP hD hS => ?_)
  have hK : va_K (dC, dI) vwCl [(c0, .int)] s := hK
  have hP : va_P (dC, dI) vwCl [(h0, .inr (1, [.int 0, .null, .null, .int 0, .int 0, .int 0, .int 0, .int 0, .int 0, .int 0, .int 0, .int 0, .int 0, .int 0, .int 0, .int 0, .int 0, .int 0])), (q0, .inl (c0, 65536, .inl (fun _ => (0 : Int32))))] H := hP
  have hD : va_D A [(h0, .inr (1, [.int 0, .null, .null, .int 0, .int 0, .int 0, .int 0, .int 0, .int 0, .int 0, .int 0, .int 0, .int 0, .int 0, .int 0, .int 0, .int 0, .int 0])), (q0, .inl (c0, 65536, .inl (fun _ => (0 : Int32))))] := hD
  refine va_putF (D := (dC, dI)) (ci := 1) (v := .ref q0) (ty := .array .int) (C := "PagedHartModel") (T := TX1) (N := 18) hx hb hts mU1 tyX1 tyX1_ok nmX1 hown hK hP hD hS 0 rfl rfl 1 (by decide) (hts _ mF_1_8) (fun _ h9 => h9) rfl hin rfl (by decide +kernel) rfl rfl (Nat.le_of_ble_eq_true rfl) dX1_init_9 (fun H locs hP hD hS => ?_)
  have hP : va_P (dC, dI) vwCl [(h0, .inr (1, [.int 0, .ref q0, .null, .int 0, .int 0, .int 0, .int 0, .int 0, .int 0, .int 0, .int 0, .int 0, .int 0, .int 0, .int 0, .int 0, .int 0, .int 0])), (q0, .inl (c0, 65536, .inl (fun _ => (0 : Int32))))] H := hP
  have hD : va_D A [(h0, .inr (1, [.int 0, .ref q0, .null, .int 0, .int 0, .int 0, .int 0, .int 0, .int 0, .int 0, .int 0, .int 0, .int 0, .int 0, .int 0, .int 0, .int 0, .int 0])), (q0, .inl (c0, 65536, .inl (fun _ => (0 : Int32))))] := hD
  refine lv_aload_n hx hb dX1_init_12 rfl (lv_at hl 0 rfl) ?_
  refine lv_bipush (v := 32) hx hb dX1_init_13 (by decide) ?_
  refine va_newa (D := (dC, dI)) (atype := .int) (ty := .int) (N' := 32) (a0 := (32, .inl (fun _ => (0 : Int32)))) hx hb (hts _ mA_int) rfl hK hP hD hS hA (fun cA => rfl) (by decide) (by decide) (by decide) (Nat.le_of_ble_eq_true rfl) (Nat.le_of_ble_eq_true rfl) dX1_init_15 (fun q1 c1 H hK hP hD hS => ?_)
  have hK : va_K (dC, dI) vwCl [(c0, .int), (c1, .int)] s := hK
  have ec : c1 = c0 := Option.some.inj ((va_nm_int (hK.2 1 _ rfl).2).symm.trans (va_nm_int (hK.2 0 _ rfl).2))
  rw [ec] at hP hD
  have hK := hK.sub (tys' := [(c0, .int)]) [0] rfl
  have hP : va_P (dC, dI) vwCl [(h0, .inr (1, [.int 0, .ref q0, .null, .int 0, .int 0, .int 0, .int 0, .int 0, .int 0, .int 0, .int 0, .int 0, .int 0, .int 0, .int 0, .int 0, .int 0, .int 0])), (q0, .inl (c0, 65536, .inl (fun _ => (0 : Int32)))), (q1, .inl (c0, 32, .inl (fun _ => (0 : Int32))))] H := hP
  have hD : va_D A [(h0, .inr (1, [.int 0, .ref q0, .null, .int 0, .int 0, .int 0, .int 0, .int 0, .int 0, .int 0, .int 0, .int 0, .int 0, .int 0, .int 0, .int 0, .int 0, .int 0])), (q0, .inl (c0, 65536, .inl (fun _ => (0 : Int32)))), (q1, .inl (c0, 32, .inl (fun _ => (0 : Int32))))] := hD
  refine va_putF (D := (dC, dI)) (ci := 1) (v := .ref q1) (ty := .array .int) (C := "PagedHartModel") (T := TX1) (N := 18) hx hb hts mU1 tyX1 tyX1_ok nmX1 hown hK hP hD hS 0 rfl rfl 2 (by decide) (hts _ mF_1_14) (fun _ h9 => h9) rfl hin rfl (by decide +kernel) rfl rfl (Nat.le_of_ble_eq_true rfl) dX1_init_17 (fun H locs hP hD hS => ?_)
  have hP : va_P (dC, dI) vwCl [(h0, .inr (1, [.int 0, .ref q0, .ref q1, .int 0, .int 0, .int 0, .int 0, .int 0, .int 0, .int 0, .int 0, .int 0, .int 0, .int 0, .int 0, .int 0, .int 0, .int 0])), (q0, .inl (c0, 65536, .inl (fun _ => (0 : Int32)))), (q1, .inl (c0, 32, .inl (fun _ => (0 : Int32))))] H := hP
  have hD : va_D A [(h0, .inr (1, [.int 0, .ref q0, .ref q1, .int 0, .int 0, .int 0, .int 0, .int 0, .int 0, .int 0, .int 0, .int 0, .int 0, .int 0, .int 0, .int 0, .int 0, .int 0])), (q0, .inl (c0, 65536, .inl (fun _ => (0 : Int32)))), (q1, .inl (c0, 32, .inl (fun _ => (0 : Int32))))] := hD
  refine lv_aload_n hx hb dX1_init_20 rfl (lv_at hl 0 rfl) ?_
  refine lv_iconst (v := 1) hx hb dX1_init_21 (by decide) ?_
  refine va_put (D := (dC, dI)) (ci := 1) (v := .int 1) (ty := .int) (C := "PagedHartModel") (T := TX1) (N := 18) hx hb hts mU1 tyX1 tyX1_ok nmX1 hown hK hP hD hS 0 rfl rfl 4 (by decide) (hts _ mF_1_17) (fun _ h9 => h9) rfl (by decide +kernel) rfl rfl (Nat.le_of_ble_eq_true rfl) dX1_init_22 (fun H locs hP hD hS => ?_)
  have hP : va_P (dC, dI) vwCl [(h0, .inr (1, [.int 0, .ref q0, .ref q1, .int 0, .int 1, .int 0, .int 0, .int 0, .int 0, .int 0, .int 0, .int 0, .int 0, .int 0, .int 0, .int 0, .int 0, .int 0])), (q0, .inl (c0, 65536, .inl (fun _ => (0 : Int32)))), (q1, .inl (c0, 32, .inl (fun _ => (0 : Int32))))] H := hP
  have hD : va_D A [(h0, .inr (1, [.int 0, .ref q0, .ref q1, .int 0, .int 1, .int 0, .int 0, .int 0, .int 0, .int 0, .int 0, .int 0, .int 0, .int 0, .int 0, .int 0, .int 0, .int 0])), (q0, .inl (c0, 65536, .inl (fun _ => (0 : Int32)))), (q1, .inl (c0, 32, .inl (fun _ => (0 : Int32))))] := hD
  refine lv_aload_n hx hb dX1_init_25 rfl (lv_at hl 0 rfl) ?_
  refine lv_iconst (v := (-1)) hx hb dX1_init_26 (by decide) ?_
  refine va_put (D := (dC, dI)) (ci := 1) (v := .int (-1)) (ty := .int) (C := "PagedHartModel") (T := TX1) (N := 18) hx hb hts mU1 tyX1 tyX1_ok nmX1 hown hK hP hD hS 0 rfl rfl 12 (by decide) (hts _ mF_1_21) (fun _ h9 => h9) rfl (by decide +kernel) rfl rfl (Nat.le_of_ble_eq_true rfl) dX1_init_27 (fun H locs hP hD hS => ?_)
  have hP : va_P (dC, dI) vwCl [(h0, .inr (1, [.int 0, .ref q0, .ref q1, .int 0, .int 1, .int 0, .int 0, .int 0, .int 0, .int 0, .int 0, .int 0, .int (-1), .int 0, .int 0, .int 0, .int 0, .int 0])), (q0, .inl (c0, 65536, .inl (fun _ => (0 : Int32)))), (q1, .inl (c0, 32, .inl (fun _ => (0 : Int32))))] H := hP
  have hD : va_D A [(h0, .inr (1, [.int 0, .ref q0, .ref q1, .int 0, .int 1, .int 0, .int 0, .int 0, .int 0, .int 0, .int 0, .int 0, .int (-1), .int 0, .int 0, .int 0, .int 0, .int 0])), (q0, .inl (c0, 65536, .inl (fun _ => (0 : Int32)))), (q1, .inl (c0, 32, .inl (fun _ => (0 : Int32))))] := hD
  refine lv_aload_n hx hb dX1_init_30 rfl (lv_at hl 0 rfl) ?_
  refine lv_iconst (v := (-1)) hx hb dX1_init_31 (by decide) ?_
  refine va_put (D := (dC, dI)) (ci := 1) (v := .int (-1)) (ty := .int) (C := "PagedHartModel") (T := TX1) (N := 18) hx hb hts mU1 tyX1 tyX1_ok nmX1 hown hK hP hD hS 0 rfl rfl 13 (by decide) (hts _ mF_1_24) (fun _ h9 => h9) rfl (by decide +kernel) rfl rfl (Nat.le_of_ble_eq_true rfl) dX1_init_32 (fun H locs hP hD hS => ?_)
  have hP : va_P (dC, dI) vwCl [(h0, .inr (1, [.int 0, .ref q0, .ref q1, .int 0, .int 1, .int 0, .int 0, .int 0, .int 0, .int 0, .int 0, .int 0, .int (-1), .int (-1), .int 0, .int 0, .int 0, .int 0])), (q0, .inl (c0, 65536, .inl (fun _ => (0 : Int32)))), (q1, .inl (c0, 32, .inl (fun _ => (0 : Int32))))] H := hP
  have hD : va_D A [(h0, .inr (1, [.int 0, .ref q0, .ref q1, .int 0, .int 1, .int 0, .int 0, .int 0, .int 0, .int 0, .int 0, .int 0, .int (-1), .int (-1), .int 0, .int 0, .int 0, .int 0])), (q0, .inl (c0, 65536, .inl (fun _ => (0 : Int32)))), (q1, .inl (c0, 32, .inl (fun _ => (0 : Int32))))] := hD
  refine lv_aload_n hx hb dX1_init_35 rfl (lv_at hl 0 rfl) ?_
  refine lv_iconst (v := 0) hx hb dX1_init_36 (by decide) ?_
  refine va_put (D := (dC, dI)) (ci := 1) (v := .int 0) (ty := .boolean) (C := "PagedHartModel") (T := TX1) (N := 18) hx hb hts mU1 tyX1 tyX1_ok nmX1 hown hK hP hD hS 0 rfl rfl 14 (by decide) (hts _ mF_1_27) (fun _ h9 => h9) rfl (by decide +kernel) rfl rfl (Nat.le_of_ble_eq_true rfl) dX1_init_37 (fun H locs hP hD hS => ?_)
  have hP : va_P (dC, dI) vwCl [(h0, .inr (1, [.int 0, .ref q0, .ref q1, .int 0, .int 1, .int 0, .int 0, .int 0, .int 0, .int 0, .int 0, .int 0, .int (-1), .int (-1), .int 0, .int 0, .int 0, .int 0])), (q0, .inl (c0, 65536, .inl (fun _ => (0 : Int32)))), (q1, .inl (c0, 32, .inl (fun _ => (0 : Int32))))] H := hP
  have hD : va_D A [(h0, .inr (1, [.int 0, .ref q0, .ref q1, .int 0, .int 1, .int 0, .int 0, .int 0, .int 0, .int 0, .int 0, .int 0, .int (-1), .int (-1), .int 0, .int 0, .int 0, .int 0])), (q0, .inl (c0, 65536, .inl (fun _ => (0 : Int32)))), (q1, .inl (c0, 32, .inl (fun _ => (0 : Int32))))] := hD
  refine W.widen (k := 2) (n := 65568) (Nat.le_of_ble_eq_true rfl) (Nat.le_of_ble_eq_true rfl) ?_
  exact W.vret hx hb hr (fun t ht hW => ⟨⟨r_new, rfl, rfl, c0, q0, q1, by rw [ht]; exact hP, va_K.moved hW.alike hK, hD⟩, hS.F ht⟩) hS.2.2 dX1_init_40 hlocks
theorem new_phi : phi r_new = h_new := by
  have e0 : (fun _ => (0 : Int32)) = cm 0 0 0 0 0 0 0 0 0 := by
    funext j; match j with | 0 => rfl | 1 => rfl | 2 => rfl | 3 => rfl | 4 => rfl | 5 => rfl | 6 => rfl | 7 => rfl | 8 => rfl | n + 9 => rfl
  have e1 : upd (upd (fun _ => (0 : Int32)) (7 : Int32).toNatClampNeg (-1)) (8 : Int32).toNatClampNeg (-1) = cm 0 0 0 0 0 0 0 (-1) (-1) := by
    rw [e0, cmu_7, cmu_8]
  unfold h_new
  rw [e1]
  rfl
theorem new_inv : Inv r_new := ⟨Or.inr rfl, rfl, by decide, by decide, by decide, Or.inl rfl, rfl⟩
