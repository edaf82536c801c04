set_option maxHeartbeats 4000000 in
set_option maxRecDepth 100000 in
/-- THE LAW, from its entry -/
theorem whole_start {p : Program} {e : Env} {s : State} {m : MethodId} {below : List Frame} {meth : Method} {c : Code} (l : Launch) (hnt : l.stackTraces = false) {b L : Nat} {xs : Nat → Int32} (hL : L ≤ 3072) (C0 : lw_At p s m meth c b L xs) : W p l e room_1 s m #[Value.ref b] below meth c s.heap [] 0 0 (lw_Z below #[Value.ref b] s) (entryFrame m ([Value.ref b] : List Value).toArray 7) := by
  obtain ⟨hx, hb, hr, hml, hown, hts, hX, hbl, hlocks, hgv⟩ := id C0
  obtain ⟨tN, tB, sa33, sa47, sa50, sa52, sa60, sa66, hZ, hX33, hX47, hX50, hX52, hX60, hX66⟩ := lw_given C0
  have htg : ∀ w ∈ gBIG, w.before #[Value.ref b] s = true := fun w h => hts w (gBIG_in w h)
  have hA : ∀ q : Nat, s.heap.size ≤ q → (zA s.heap.size) q := fun _ h => h
  obtain ⟨c0, iS0, hKn0⟩ := u_known (C := "PagedHart") (T := TX0) (N := 6) (n := 6) htg mU0 (htg _ mY_0)
  obtain ⟨c1, iS1, hKn1⟩ := u_known (C := "PagedHartModel") (T := TX1) (N := 18) (n := 18) htg mU1 (htg _ mY_1)
  obtain ⟨dC, dI, hKc⟩ : ∃ (dC : Nat → ClassId) (dI : Nat → Nat → Nat), ∀ (k : Nat) (q : vw_C), vwCl[k]? = some q → u_Kn s q.1 q.2.1 q.2.2 (dC k) (dI k) := by
    refine ⟨fun k => if k = 0 then c0 else c1, fun k => if k = 0 then iS0 else iS1, ?_⟩
    intro k q hq
    match k, hq with
    | 0, hq => cases hq; exact hKn0
    | 1, hq => cases hq; exact hKn1
    | k + 2, hq => simp [vwCl] at hq
  have hS : va_S (zA s.heap.size) s.heap s.heap [] := va_S.rf
  have hK : va_K (dC, dI) vwCl [] s := ⟨hKc, fun k q h => by simp at h⟩
  have hP : va_P (dC, dI) vwCl [] s.heap := fun k q h => by simp at h
  have hD : va_D (zA s.heap.size) [] := ⟨fun i j p q h => by simp at h, fun k q h => by simp at h⟩
  have hl := lv_entry ([.ref b]) (n := 7) (Nat.le_of_ble_eq_true rfl)
  rw [lg_entry_eq]
  generalize (lg_sl ([.ref b]) ++ List.replicate (7 - (lg_sl ([.ref b])).length) Slot.unset).toArray = ls at hl ⊢
  have hl : lv_has ls 7 [(0, .ref b)] := hl
  refine va_new (ci := 0) (fs := [.null, .null, .null, .int 0, .int 0, .int 0]) (C := "PagedHart") (T := TX0) (N := 6) hx hb htg mU0 tyX0 tyX0_ok hown (htg _ mK_L_8) (htg _ mY_0) (htg _ mN_0) hK hP hD hS hA rfl (fun j hj => by rcases (show j = 0 ∨ j = 1 ∨ j = 2 ∨ j = 3 ∨ j = 4 ∨ j = 5 by omega) with rfl | rfl | rfl | rfl | rfl | rfl <;> rfl) (Nat.le_of_ble_eq_true rfl) (Nat.le_of_ble_eq_true rfl) dXL_law_0 (fun h0 H hP hD hS => ?_)
  have hP : va_P (dC, dI) vwCl [(h0, .inr (0, [.null, .null, .null, .int 0, .int 0, .int 0]))] H := hP
  have hD : va_D (zA s.heap.size) [(h0, .inr (0, [.null, .null, .null, .int 0, .int 0, .int 0]))] := hD
  refine W.widen (k := 1) (n := 6) (Nat.le_of_ble_eq_true rfl) (Nat.le_of_ble_eq_true rfl) ?_
  refine lv_dup hx hb dXL_law_3 rfl ?_
  have hFc := va_free (wc := [(h0, .inr (0, [.null, .null, .null, .int 0, .int 0, .int 0]))]) hD hS hA [0] rfl
  refine va_callv (va_runI (As := []) (rest := [.ref h0]) ⟨hx, hb, hml, hown, htg⟩ (ci_h l dC dI h0 H.size) (cwI 0 htg (gAll (gCons mB_0_init gSelf)) rfl rfl rfl (htg _ mN_0) (htg _ mL_L_46) (htg _ mI_0_init) rfl (by decide +kernel) ⟨Nat.le_of_ble_eq_true rfl, Nat.le_of_ble_eq_true rfl⟩) ⟨fun a U g mk q => by obtain ⟨q0, q1, qP, qK, qD⟩ := q; exact ⟨q0, q1, qP, va_K.moved (u := U) (U := U.calling g mk a) (Vm.Alike.refl U.vm) qK, qD⟩, fun U hU hW => ⟨rfl, by rw [hU], by rw [hU]; exact hP, va_K.moved hW.alike hK, hD.weaken (fun _ _ _ _ => trivial)⟩⟩ rfl rfl hl.1 rfl (lv_room (Nat.le_of_ble_eq_true rfl)) dXL_law_4 ⟨Nat.le_of_ble_eq_true rfl, Nat.le_of_ble_eq_true rfl⟩) hS (fun q _ h => hFc q h) hFc (fun u t H1 locs ht hvm hw hB hz1 hk1 hS => ?_)
  obtain ⟨cI, qme0, qre1, qco2, hP1, hK1, hD1⟩ := hB
  rw [ht] at hP1
  have hK1 := va_K.moved hvm.symm hK1
  obtain ⟨hP, hD⟩ := va_join (wr := []) (w1 := gW cI h0 qme0 qre1 qco2 u) hP hD [0] [] rfl rfl (by decide) (by decide) hk1 hFc hP1 hD1
  have hK : va_K (dC, dI) vwCl [(cI, .int)] s := (hK.sub (tys' := []) [] rfl).app hK1
  have hP : va_P (dC, dI) vwCl (gW cI h0 qme0 qre1 qco2 u) H1 := hP
  have hD : va_D (zA s.heap.size) (gW cI h0 qme0 qre1 qco2 u) := hD
  generalize H1 = H at hP hS ⊢
  refine W.widen (k := 4) (n := 65583) (Nat.le_of_ble_eq_true rfl) (Nat.le_of_ble_eq_true rfl) ?_
  refine lv_astore_n (lv' := [(1, .ref h0), (0, .ref b)]) hx hb dXL_law_7 rfl hl (by decide) rfl (fun ls hl => ?_)
  refine va_new (ci := 1) (fs := [.int 0, .null, .null, .int 0, .int 0, .int 0, .int 0, .int 0, .int 0, .int 0, .int 0, .int 0, .int 0, .int 0, .int 0, .int 0, .int 0, .int 0]) (C := "PagedHartModel") (T := TX1) (N := 18) hx hb htg mU1 tyX1 tyX1_ok hown (htg _ mK_L_47) (htg _ mY_1) (htg _ mN_1) hK hP hD hS hA rfl (fun j hj => by rcases (show j = 0 ∨ j = 1 ∨ j = 2 ∨ j = 3 ∨ j = 4 ∨ j = 5 ∨ j = 6 ∨ j = 7 ∨ j = 8 ∨ j = 9 ∨ j = 10 ∨ j = 11 ∨ j = 12 ∨ j = 13 ∨ j = 14 ∨ j = 15 ∨ j = 16 ∨ j = 17 by omega) with rfl | rfl | rfl | rfl | rfl | rfl | rfl | rfl | rfl | rfl | rfl | rfl | rfl | rfl | rfl | rfl | rfl | rfl <;> rfl) (Nat.le_of_ble_eq_true rfl) (Nat.le_of_ble_eq_true rfl) dXL_law_8 (fun k0 H hP hD hS => ?_)
  have hP : va_P (dC, dI) vwCl [(h0, .inr (0, [.ref qme0, .ref qre1, .ref qco2, .int u.2.2.2.1, .int u.2.2.2.2.1, .int u.2.2.2.2.2])), (qme0, .inl (cI, 65536, .inl u.1)), (qre1, .inl (cI, 32, .inl u.2.1)), (qco2, .inl (cI, 9, .inl u.2.2.1)), (k0, .inr (1, [.int 0, .null, .null, .int 0, .int 0, .int 0, .int 0, .int 0, .int 0, .int 0, .int 0, .int 0, .int 0, .int 0, .int 0, .int 0, .int 0, .int 0]))] H := hP
  have hD : va_D (zA s.heap.size) [(h0, .inr (0, [.ref qme0, .ref qre1, .ref qco2, .int u.2.2.2.1, .int u.2.2.2.2.1, .int u.2.2.2.2.2])), (qme0, .inl (cI, 65536, .inl u.1)), (qre1, .inl (cI, 32, .inl u.2.1)), (qco2, .inl (cI, 9, .inl u.2.2.1)), (k0, .inr (1, [.int 0, .null, .null, .int 0, .int 0, .int 0, .int 0, .int 0, .int 0, .int 0, .int 0, .int 0, .int 0, .int 0, .int 0, .int 0, .int 0, .int 0]))] := hD
  refine W.widen (k := 5) (n := 65601) (Nat.le_of_ble_eq_true rfl) (Nat.le_of_ble_eq_true rfl) ?_
  refine lv_dup hx hb dXL_law_11 rfl ?_
  have hFc := va_free (wc := [(k0, .inr (1, [.int 0, .null, .null, .int 0, .int 0, .int 0, .int 0, .int 0, .int 0, .int 0, .int 0, .int 0, .int 0, .int 0, .int 0, .int 0, .int 0, .int 0]))]) hD hS hA [4] rfl
  have hPc := hP.sub (ws' := [(k0, .inr (1, [.int 0, .null, .null, .int 0, .int 0, .int 0, .int 0, .int 0, .int 0, .int 0, .int 0, .int 0, .int 0, .int 0, .int 0, .int 0, .int 0, .int 0]))]) [4] rfl
  have hDc := hD.sub (ws' := [(k0, .inr (1, [.int 0, .null, .null, .int 0, .int 0, .int 0, .int 0, .int 0, .int 0, .int 0, .int 0, .int 0, .int 0, .int 0, .int 0, .int 0, .int 0, .int 0]))]) [4] (by decide) rfl
  have hK0 := hK.sub (tys' := []) [] rfl
  refine va_callv (va_runI (As := []) (rest := [.ref k0]) ⟨hx, hb, hml, hown, htg⟩ (ci_r l dC dI k0 H.size) (cwI 0 htg (gAll (gCons mB_1_init gSelf)) rfl rfl rfl (htg _ mN_1) (htg _ mL_L_49) (htg _ mI_1_init) rfl (by decide +kernel) ⟨Nat.le_of_ble_eq_true rfl, Nat.le_of_ble_eq_true rfl⟩) ⟨fun a U g mk q => by obtain ⟨q0, q1, qP, qK, qD⟩ := q; exact ⟨q0, q1, qP, va_K.moved (u := U) (U := U.calling g mk a) (Vm.Alike.refl U.vm) qK, qD⟩, fun U hU hW => ⟨rfl, by rw [hU], by rw [hU]; exact hPc, va_K.moved hW.alike hK0, hDc.weaken (fun _ _ _ _ => trivial)⟩⟩ rfl rfl hl.1 rfl (lv_room (Nat.le_of_ble_eq_true rfl)) dXL_law_12 ⟨Nat.le_of_ble_eq_true rfl, Nat.le_of_ble_eq_true rfl⟩) hS (fun q _ h => hFc q h) hFc (fun v t H1 locs ht hvm hv hB hz1 hk1 hS => ?_)
  obtain ⟨cJ, km, kr, hP1, hK1, hD1⟩ := hB
  rw [ht] at hP1
  have hK1 := va_K.moved hvm.symm hK1
  have ec : cJ = cI := Option.some.inj ((va_nm_int (hK1.2 0 _ rfl).2).symm.trans (va_nm_int (hK.2 0 _ rfl).2))
  rw [ec] at hP1 hD1
  obtain ⟨hP, hD⟩ := va_join (wr := gW cI h0 qme0 qre1 qco2 u) (w1 := rW cI k0 km kr v) hP hD [4] [0, 1, 2, 3] rfl rfl (by decide) (by decide) hk1 hFc hP1 hD1
  have hP : va_P (dC, dI) vwCl [(h0, .inr (0, [.ref qme0, .ref qre1, .ref qco2, .int u.2.2.2.1, .int u.2.2.2.2.1, .int u.2.2.2.2.2])), (qme0, .inl (cI, 65536, .inl u.1)), (qre1, .inl (cI, 32, .inl u.2.1)), (qco2, .inl (cI, 9, .inl u.2.2.1)), (k0, .inr (1, [.int v.1, .ref km, .ref kr, .int v.2.2.2.1, .int v.2.2.2.2.1, .int v.2.2.2.2.2.1, .int v.2.2.2.2.2.2.1, .int v.2.2.2.2.2.2.2.1, .int v.2.2.2.2.2.2.2.2.1, .int v.2.2.2.2.2.2.2.2.2.1, .int v.2.2.2.2.2.2.2.2.2.2.1, .int v.2.2.2.2.2.2.2.2.2.2.2.1, .int v.2.2.2.2.2.2.2.2.2.2.2.2.1, .int v.2.2.2.2.2.2.2.2.2.2.2.2.2.1, .int v.2.2.2.2.2.2.2.2.2.2.2.2.2.2.1, .int v.2.2.2.2.2.2.2.2.2.2.2.2.2.2.2.1, .int v.2.2.2.2.2.2.2.2.2.2.2.2.2.2.2.2.1, .int v.2.2.2.2.2.2.2.2.2.2.2.2.2.2.2.2.2])), (km, .inl (cI, 65536, .inl v.2.1)), (kr, .inl (cI, 32, .inl v.2.2.1))] H1 := hP
  have hD : va_D (zA s.heap.size) [(h0, .inr (0, [.ref qme0, .ref qre1, .ref qco2, .int u.2.2.2.1, .int u.2.2.2.2.1, .int u.2.2.2.2.2])), (qme0, .inl (cI, 65536, .inl u.1)), (qre1, .inl (cI, 32, .inl u.2.1)), (qco2, .inl (cI, 9, .inl u.2.2.1)), (k0, .inr (1, [.int v.1, .ref km, .ref kr, .int v.2.2.2.1, .int v.2.2.2.2.1, .int v.2.2.2.2.2.1, .int v.2.2.2.2.2.2.1, .int v.2.2.2.2.2.2.2.1, .int v.2.2.2.2.2.2.2.2.1, .int v.2.2.2.2.2.2.2.2.2.1, .int v.2.2.2.2.2.2.2.2.2.2.1, .int v.2.2.2.2.2.2.2.2.2.2.2.1, .int v.2.2.2.2.2.2.2.2.2.2.2.2.1, .int v.2.2.2.2.2.2.2.2.2.2.2.2.2.1, .int v.2.2.2.2.2.2.2.2.2.2.2.2.2.2.1, .int v.2.2.2.2.2.2.2.2.2.2.2.2.2.2.2.1, .int v.2.2.2.2.2.2.2.2.2.2.2.2.2.2.2.2.1, .int v.2.2.2.2.2.2.2.2.2.2.2.2.2.2.2.2.2])), (km, .inl (cI, 65536, .inl v.2.1)), (kr, .inl (cI, 32, .inl v.2.2.1))] := hD
  generalize H1 = H at hP hS ⊢
  refine W.widen (k := 7) (n := 131169) (Nat.le_of_ble_eq_true rfl) (Nat.le_of_ble_eq_true rfl) ?_
  refine lv_astore_n (lv' := [(2, .ref k0), (1, .ref h0), (0, .ref b)]) hx hb dXL_law_15 rfl hl (by decide) rfl (fun ls hl => ?_)
  refine lv_iconst (v := 1) hx hb dXL_law_16 (by decide) ?_
  refine va_newa (D := (dC, dI)) (atype := .long) (ty := .long) (N' := 1) (a0 := (1, .inr (.inl (fun _ => (0 : Int64))))) hx hb (htg _ mA_long) rfl hK hP hD hS hA (fun cA => rfl) (by decide) (by decide) (by decide) (Nat.le_of_ble_eq_true rfl) (Nat.le_of_ble_eq_true rfl) dXL_law_17 (fun qo cL H hK hP hD hS => ?_)
  have hK : va_K (dC, dI) vwCl [(cI, .int), (cL, .long)] s := hK
  have hP : va_P (dC, dI) vwCl (lW cI cL h0 qme0 qre1 qco2 k0 km kr qo u v (fun _ => (0 : Int64))) H := hP
  have hD : va_D (zA s.heap.size) (lW cI cL h0 qme0 qre1 qco2 k0 km kr qo u v (fun _ => (0 : Int64))) := hD
  refine lv_astore_n (lv' := [(3, .ref qo), (2, .ref k0), (1, .ref h0), (0, .ref b)]) hx hb dXL_law_19 rfl hl (by decide) rfl (fun ls hl => ?_)
  refine lv_iconst (v := 0) hx hb dXL_law_20 (by decide) ?_
  refine lv_istore (lv' := [(4, .int 0), (3, .ref qo), (2, .ref k0), (1, .ref h0), (0, .ref b)]) hx hb dXL_law_21 hl (by decide) rfl (fun ls hl => ?_)
  refine W.widen (k := 8 + 0) (n := 131170 + 6 * 0) (Nat.le_of_ble_eq_true rfl) (Nat.le_of_ble_eq_true rfl) ?_
  exact law_loop hnt hL C0 hK hZ hX33 hX47 hX50 hX52 hX60 hX66 (L + 1) 0 0 (by omega) (by omega) rfl u v (fun _ => 0) H locs (by rw [hw, hv, new_phi]) (by rw [hv]; exact th_inv new_inv) hP hD hS ls (lv_sub hl [4, 3, 2, 1, 0] rfl)
