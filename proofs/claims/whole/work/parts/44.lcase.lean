/-! THE CLAIM OUT OF ONE WALK OF THE LAW'S BODY. Your part is whole_start (and what it stands on); all else here is the same for every law, but numbers. -/
def R_law : String := "PagedHartLaw"
def lw_P (b : Addr) (xs : List Int32) (args : Array Value) (s : State) : Prop := args = #[.ref b] ∧ s.IntsAt b xs ∧ xs.length ≤ 3072 ∧ (Jvm.Cond.and given_1 narrow_1).before args s = true
def lw_Q (_ : Array Value) (s : State) (o : Outcome) (t : State) : Prop := o = .returned (some (.int 1)) ∧ Framed s o t [] 601024 7293034
def lw_Z (below : List Frame) (a : Array Value) (s : State) : State → Prop := fun t => ∃ o, t.status = .running ∧ Ended t below o ∧ lw_Q a s o t
/-- the law's own end, with 1 on the stack, nothing written that was there before, its room as the claim has it -/
theorem lw_ret {p : Program} {l : Launch} {e : Env} {s : State} {m : MethodId} {below : List Frame} {meth : Method} {c : Code} {b : Nat} (hx : p.tables.exec = Jvm.exec) (hb : c.code = code) (hr : meth.sig.returnType = ret) (hlocks : meth.locks = false) {pc : Nat} {H : Heap} {ls : Array Slot} (hdg : decode code pc = .ok (.ireturn, 1)) : W p l e room_1 s m #[Value.ref b] below meth c H [] 601024 7293034 (lw_Z below #[Value.ref b] s) (F0 m pc ls [.int 1]) := by
  intro T hT X
  obtain ⟨fs, hret, hrun, hended, hW, hframe⟩ := X.leave (v := some (.int 1)) (hlocks := hlocks) (fun h => by rw [hr] at h; cases h)
  have hmeth' : T.vm.method? m = some meth := X.method'
  refine ⟨T.setFrames fs, ?_, .returned (some (.int 1)), hrun, hended, rfl, ⟨_, rfl⟩, hW, hframe⟩
  jvm_step X.here [X.here.top, hx, hb, hdg, hmeth', hr, ret, narrow_b1]
  (try refine ⟨rfl, ?_⟩); (try refine ⟨rfl, ?_⟩)
  first | (intro acts; rw [hret _ acts rfl rfl rfl]) | rw [hret _ _ rfl rfl rfl]
  exact Steps.refl _
/-- what holds at the law's entry: the machine, the code, the tables' words (any of lw_tbl by 'hts w (by decide +kernel)'), the script of L ints xs at the cell b, what the Statement gives of the start (any of its parts by flat_of_before) -/
def lw_At (p : Program) (s : State) (m : MethodId) (meth : Method) (c : Code) (b L : Nat) (xs : Nat → Int32) : Prop :=
  p.tables.exec = Jvm.exec ∧ c.code = code ∧ meth.sig.returnType = ret ∧ c.maxLocals = 7 ∧ s.vm.findClass R_law = some m.cls ∧ (∀ w ∈ lw_tbl, w.before #[Value.ref b] s = true) ∧ va_X b L xs s s.heap ∧ b < s.heap.size ∧ meth.locks = false ∧ (Jvm.Cond.and given_1 narrow_1).before #[Value.ref b] s = true
set_option maxHeartbeats 4000000 in
set_option maxRecDepth 100000 in
theorem lc_run {p : Program} {l : Launch} {e : Env} {s : State} {m : MethodId} {below : List Frame} {meth : Method} {c : Code} {dC : Nat → ClassId} {dI : Nat → Nat → Nat} {b L : Nat} {xs : Nat → Int32} {cI cL h0 qme0 qre1 qco2 k0 km kr qo tN tB sa33 sa47 sa50 sa52 sa60 sa66 : Nat} (hnt : l.stackTraces = false) (hL : L ≤ 3072) (C0 : lw_At p s m meth c b L xs) (hK : va_K (dC, dI) vwCl [(cI, .int), (cL, .long)] s) (hZ : gZ tN tB (zA s.heap.size) s s.heap) (hX33 : gX "java/lang/IllegalArgumentException" "steps are 0 to 20000" 33 sa33 (zA s.heap.size) s s.heap) (hX47 : gX "java/lang/IndexOutOfBoundsException" "no word of the memory" 47 sa47 (zA s.heap.size) s s.heap) (hX50 : gX "java/lang/IndexOutOfBoundsException" "not four words of the memory" 50 sa50 (zA s.heap.size) s s.heap) (hX52 : gX "java/lang/IndexOutOfBoundsException" "registers are 0 to 33" 52 sa52 (zA s.heap.size) s s.heap) (hX60 : gX "java/util/NoSuchElementException" "no control of that number" 60 sa60 (zA s.heap.size) s s.heap) (hX66 : gX "java/lang/IllegalArgumentException" "how is 0, 1 or 2" 66 sa66 (zA s.heap.size) s s.heap) {j : Nat} {x4 : Int32} (hj : 6 * j + 6 ≤ L) (ex4 : x4 = nI (6 * j)) (next : ∀ (u : HS) (v : RS) (o : Nat → Int64) (H : Heap) (locs : List Loc), u = phi v → Inv (setTH v 0) → va_P (dC, dI) vwCl (lW cI cL h0 qme0 qre1 qco2 k0 km kr qo u v o) H → va_D (zA s.heap.size) (lW cI cL h0 qme0 qre1 qco2 k0 km kr qo u v o) → va_S (zA s.heap.size) s.heap H locs → ∀ (ls : Array Slot), lv_has ls 7 [(0, .ref b), (1, .ref h0), (2, .ref k0), (3, .ref qo), (4, .int x4)] → W p l e room_1 s m #[Value.ref b] below meth c H locs (8 + j + 1) (131170 + 6 * j + 6) (lw_Z below #[Value.ref b] s) (F0 m 629 ls [])) {u : HS} {v : RS} {o : Nat → Int64} {H : Heap} {locs : List Loc} (hu : u = phi v) (hi : Inv (setTH v 0)) (hP : va_P (dC, dI) vwCl (lW cI cL h0 qme0 qre1 qco2 k0 km kr qo u v o) H) (hD : va_D (zA s.heap.size) (lW cI cL h0 qme0 qre1 qco2 k0 km kr qo u v o)) (hS : va_S (zA s.heap.size) s.heap H locs) (ls : Array Slot) (hl : lv_has ls 7 [(0, .ref b), (1, .ref h0), (2, .ref k0), (3, .ref qo), (4, .int x4)]) : W p l e room_1 s m #[Value.ref b] below meth c H locs (8 + j) (131170 + 6 * j) (lw_Z below #[Value.ref b] s) (F0 m 96 ls []) := by
  obtain ⟨hx, hb, hr, hml, hown, hts, hX, hbl, hlocks, hgv⟩ := C0
  have htg : ∀ w ∈ gBIG, w.before #[Value.ref b] s = true := fun w h => hts w (gBIG_in w h)
  have hbA : ¬ (zA s.heap.size) b := Nat.not_le.mpr hbl
  have hroom : 8 + j + 1 ≤ room_1.cells ∧ 131170 + 6 * j + 6 ≤ room_1.slots := ⟨by show _ ≤ 601024; omega, by show _ ≤ 7293034; omega⟩
  have hroom0 : 8 + j ≤ room_1.cells ∧ 131170 + 6 * j ≤ room_1.slots := ⟨by show _ ≤ 601024; omega, by show _ ≤ 7293034; omega⟩
  have h_1 : vp_in (x4 + 1) L := by rw [ex4, show (1 : Int32) = nI 1 from rfl, nI_add']; exact vp_in_nI (by omega) (by omega)
  have h_2 : vp_in (x4 + 2) L := by rw [ex4, show (2 : Int32) = nI 2 from rfl, nI_add']; exact vp_in_nI (by omega) (by omega)
  have h_3 : vp_in (x4 + 3) L := by rw [ex4, show (3 : Int32) = nI 3 from rfl, nI_add']; exact vp_in_nI (by omega) (by omega)
  have h_4 : vp_in (x4 + 4) L := by rw [ex4, show (4 : Int32) = nI 4 from rfl, nI_add']; exact vp_in_nI (by omega) (by omega)
  have h_5 : vp_in (x4 + 5) L := by rw [ex4, show (5 : Int32) = nI 5 from rfl, nI_add']; exact vp_in_nI (by omega) (by omega)
  subst hu
  refine lv_aload_n hx hb dXL_law_96 rfl (lv_at hl 1 rfl) ?_
  refine lv_aload_n hx hb dXL_law_97 rfl (lv_at hl 0 rfl) ?_
  refine lv_iload hx hb dXL_law_98 (lv_at hl 4 rfl) ?_
  refine lv_iconst (v := 1) hx hb dXL_law_100 (by decide) ?_
  refine lv_iadd hx hb dXL_law_101 ?_
  refine va_sld hx hb hX hbl hbA hS h_1 dXL_law_102 ?_
  refine lv_aload_n hx hb dXL_law_103 rfl (lv_at hl 3 rfl) ?_
  refine lKI (As := [.ref h0, .int (xs (x4 + 1).toNatClampNeg), .ref qo]) (rest := []) ⟨hx, hb, hml, hown, htg⟩ (ck_run l dC dI cI cL h0 qme0 qre1 qco2 qo tN tB hnt sa33 H.size (phi v) o (xs (x4 + 1).toNatClampNeg)) (vx_cwSW 3 htg (gSW mL_L_50 mS_L_run mN_L mB_L_run) rfl rfl rfl (by decide +kernel) ⟨Nat.le_of_ble_eq_true rfl, Nat.le_of_ble_eq_true rfl⟩) hK hP hD hS hZ hX33 rfl hl.1 rfl (Nat.le_of_ble_eq_true rfl) dXL_law_104 hroom (fun k z hk H locs hP hD hS => ?_)
  refine lv_istore (lv' := [(5, .int k), (0, .ref b), (1, .ref h0), (2, .ref k0), (3, .ref qo), (4, .int x4)]) hx hb dXL_law_107 hl (by decide) rfl (fun ls hl => ?_)
  refine lv_aload_n hx hb dXL_law_109 rfl (lv_at hl 3 rfl) ?_
  refine lv_aload_n hx hb dXL_law_110 rfl (lv_at hl 1 rfl) ?_
  refine lv_iload hx hb dXL_law_111 (lv_at hl 5 rfl) ?_
  refine lv_iconst (v := 1) hx hb dXL_law_113 (by decide) ?_
  refine lv_iadd hx hb dXL_law_114 ?_
  refine va_sld hx hb hX hbl hbA hS h_1 dXL_law_115 ?_
  refine lRI (As := [.int (xs (x4 + 1).toNatClampNeg)]) (rest := []) ⟨hx, hb, hml, hown, htg⟩ (cr_run l dC dI cI k0 km kr tN tB H.size v (xs (x4 + 1).toNatClampNeg)) (cwV 1 htg (gV mL_L_55 mI_1_run mX_1_run mN_1 mB_1_run) rfl rfl rfl (by decide +kernel) ⟨Nat.le_of_ble_eq_true rfl, Nat.le_of_ble_eq_true rfl⟩) hK hP hD hS rfl hl.1 rfl (Nat.le_of_ble_eq_true rfl) dXL_law_116 hroom (fun r hr9 H locs hP hD hS => ?_)
  obtain ⟨t1, t2, t3, t4⟩ := post_I (r := r) hk (by rw [hr9]; exact P_run v (xs (x4 + 1).toNatClampNeg) hi)
  refine lv_istore (lv' := [(6, .int r.1), (5, .int k), (0, .ref b), (1, .ref h0), (2, .ref k0), (3, .ref qo), (4, .int x4)]) hx hb dXL_law_119 hl (by decide) rfl (fun ls hl => ?_)
  refine lv_aload_n hx hb dXL_law_121 rfl (lv_at hl 4 rfl) ?_
  refine lRR (As := []) (rest := []) ⟨hx, hb, hml, hown, htg⟩ (cr_thrown l dC dI cI k0 km kr tN tB H.size r.2) (cwV 0 htg (gV mL_L_56 mI_1_thrown mX_1_thrown mN_1 mB_1_thrown) rfl rfl rfl (by decide +kernel) ⟨Nat.le_of_ble_eq_true rfl, Nat.le_of_ble_eq_true rfl⟩) hK hP hD rfl hl.1 rfl (Nat.le_of_ble_eq_true rfl) dXL_law_122 hroom ?_
  refine lv_iload hx hb dXL_law_125 (lv_at hl 1 rfl) ?_
  refine lv_icmp_eq (tgt := 132) hx hb dXL_law_127 (by decide) (fun _ => ?_) (fun ne => absurd t1 ne)
  refine lv_iload hx hb dXL_law_132 (lv_at hl 1 rfl) ?_
  refine lv_if_ne (tgt := 149) hx hb dXL_law_134 (by decide) (fun _ => ?_) (fun ke => ?_)
  · refine lv_goto (tgt := 629) hx hb dXL_law_149 (by decide) ?_
    exact next _ _ _ _ _ t2 t4 hP hD hS ls (lv_sub hl [2, 3, 4, 5, 6] rfl)
  · refine lv_aload_n hx hb dXL_law_137 rfl (lv_at hl 5 rfl) ?_
    refine lv_iconst (v := 0) hx hb dXL_law_138 (by decide) ?_
    refine va_lald (D := (dC, dI)) hx hb hK hP 7 1 rfl rfl (jin (by decide)) dXL_law_139 ?_
    refine lv_iload hx hb dXL_law_140 (lv_at hl 0 rfl) ?_
    refine lv_i2l hx hb dXL_law_142 rfl ?_
    refine W.lcmp hx hb dXL_law_143 ?_
    rw [t3 ke, lg_self]
    refine lv_if_eq (tgt := 149) hx hb dXL_law_144 (by decide) (fun _ => ?_) (fun ne => absurd rfl ne)
    refine lv_goto (tgt := 629) hx hb dXL_law_149 (by decide) ?_
    exact next _ _ _ _ _ t2 t4 hP hD hS ls (lv_sub hl [2, 3, 4, 5, 6] rfl)
set_option maxHeartbeats 4000000 in
set_option maxRecDepth 100000 in
theorem lc_called {p : Program} {l : Launch} {e : Env} {s : State} {m : MethodId} {below : List Frame} {meth : Method} {c : Code} {dC : Nat → ClassId} {dI : Nat → Nat → Nat} {b L : Nat} {xs : Nat → Int32} {cI cL h0 qme0 qre1 qco2 k0 km kr qo tN tB sa33 sa47 sa50 sa52 sa60 sa66 : Nat} (hnt : l.stackTraces = false) (hL : L ≤ 3072) (C0 : lw_At p s m meth c b L xs) (hK : va_K (dC, dI) vwCl [(cI, .int), (cL, .long)] s) (hZ : gZ tN tB (zA s.heap.size) s s.heap) (hX33 : gX "java/lang/IllegalArgumentException" "steps are 0 to 20000" 33 sa33 (zA s.heap.size) s s.heap) (hX47 : gX "java/lang/IndexOutOfBoundsException" "no word of the memory" 47 sa47 (zA s.heap.size) s s.heap) (hX50 : gX "java/lang/IndexOutOfBoundsException" "not four words of the memory" 50 sa50 (zA s.heap.size) s s.heap) (hX52 : gX "java/lang/IndexOutOfBoundsException" "registers are 0 to 33" 52 sa52 (zA s.heap.size) s s.heap) (hX60 : gX "java/util/NoSuchElementException" "no control of that number" 60 sa60 (zA s.heap.size) s s.heap) (hX66 : gX "java/lang/IllegalArgumentException" "how is 0, 1 or 2" 66 sa66 (zA s.heap.size) s s.heap) {j : Nat} {x4 : Int32} (hj : 6 * j + 6 ≤ L) (ex4 : x4 = nI (6 * j)) (next0 : ∀ (u : HS) (v : RS) (o : Nat → Int64) (H : Heap) (locs : List Loc), u = phi v → Inv (setTH v 0) → va_P (dC, dI) vwCl (lW cI cL h0 qme0 qre1 qco2 k0 km kr qo u v o) H → va_D (zA s.heap.size) (lW cI cL h0 qme0 qre1 qco2 k0 km kr qo u v o) → va_S (zA s.heap.size) s.heap H locs → ∀ (ls : Array Slot), lv_has ls 7 [(0, .ref b), (1, .ref h0), (2, .ref k0), (3, .ref qo), (4, .int x4)] → W p l e room_1 s m #[Value.ref b] below meth c H locs (8 + j + 0) (131170 + 6 * j + 0) (lw_Z below #[Value.ref b] s) (F0 m 629 ls [])) {u : HS} {v : RS} {o : Nat → Int64} {H : Heap} {locs : List Loc} (hu : u = phi v) (hi : Inv (setTH v 0)) (hP : va_P (dC, dI) vwCl (lW cI cL h0 qme0 qre1 qco2 k0 km kr qo u v o) H) (hD : va_D (zA s.heap.size) (lW cI cL h0 qme0 qre1 qco2 k0 km kr qo u v o)) (hS : va_S (zA s.heap.size) s.heap H locs) (ls : Array Slot) (hl : lv_has ls 7 [(0, .ref b), (1, .ref h0), (2, .ref k0), (3, .ref qo), (4, .int x4)]) : W p l e room_1 s m #[Value.ref b] below meth c H locs (8 + j) (131170 + 6 * j) (lw_Z below #[Value.ref b] s) (F0 m 152 ls []) := by
  obtain ⟨hx, hb, hr, hml, hown, hts, hX, hbl, hlocks, hgv⟩ := C0
  have htg : ∀ w ∈ gBIG, w.before #[Value.ref b] s = true := fun w h => hts w (gBIG_in w h)
  have hbA : ¬ (zA s.heap.size) b := Nat.not_le.mpr hbl
  have hroom : 8 + j + 1 ≤ room_1.cells ∧ 131170 + 6 * j + 6 ≤ room_1.slots := ⟨by show _ ≤ 601024; omega, by show _ ≤ 7293034; omega⟩
  have hroom0 : 8 + j ≤ room_1.cells ∧ 131170 + 6 * j ≤ room_1.slots := ⟨by show _ ≤ 601024; omega, by show _ ≤ 7293034; omega⟩
  have h_1 : vp_in (x4 + 1) L := by rw [ex4, show (1 : Int32) = nI 1 from rfl, nI_add']; exact vp_in_nI (by omega) (by omega)
  have h_2 : vp_in (x4 + 2) L := by rw [ex4, show (2 : Int32) = nI 2 from rfl, nI_add']; exact vp_in_nI (by omega) (by omega)
  have h_3 : vp_in (x4 + 3) L := by rw [ex4, show (3 : Int32) = nI 3 from rfl, nI_add']; exact vp_in_nI (by omega) (by omega)
  have h_4 : vp_in (x4 + 4) L := by rw [ex4, show (4 : Int32) = nI 4 from rfl, nI_add']; exact vp_in_nI (by omega) (by omega)
  have h_5 : vp_in (x4 + 5) L := by rw [ex4, show (5 : Int32) = nI 5 from rfl, nI_add']; exact vp_in_nI (by omega) (by omega)
  subst hu
  refine lv_aload_n hx hb dXL_law_152 rfl (lv_at hl 1 rfl) ?_
  refine lGR (As := []) (rest := []) ⟨hx, hb, hml, hown, htg⟩ (ch_called l dC dI cI h0 qme0 qre1 qco2 tN tB H.size (phi v) hi.2.2.2.2.2.1) (cwV 0 htg (gV mL_L_60 mI_0_called mX_0_called mN_0 mB_0_called) rfl rfl rfl (by decide +kernel) ⟨Nat.le_of_ble_eq_true rfl, Nat.le_of_ble_eq_true rfl⟩) hK hP hD hS hZ rfl hl.1 rfl (Nat.le_of_ble_eq_true rfl) dXL_law_153 hroom0 ?_
  refine lv_aload_n hx hb dXL_law_156 rfl (lv_at hl 2 rfl) ?_
  refine lRI (As := []) (rest := [.int (h_called (phi v))]) ⟨hx, hb, hml, hown, htg⟩ (cr_called l dC dI cI k0 km kr tN tB H.size v hi.2.2.2.2.2.1) (cwV 0 htg (gV mL_L_64 mI_1_called mX_1_called mN_1 mB_1_called) rfl rfl rfl (by decide +kernel) ⟨Nat.le_of_ble_eq_true rfl, Nat.le_of_ble_eq_true rfl⟩) hK hP hD hS rfl hl.1 rfl (Nat.le_of_ble_eq_true rfl) dXL_law_157 hroom0 (fun r hr9 H locs hP hD hS => ?_)
  obtain ⟨t1, t2, t4⟩ := P_called v hi
  rw [← hr9] at t1 t2 t4
  refine lv_icmp_eq (tgt := 629) hx hb dXL_law_160 (by decide) (fun _ => ?_) (fun ne => absurd t1.symm ne)
  exact next0 _ _ _ _ _ t2.symm t4 hP hD hS ls hl
set_option maxHeartbeats 4000000 in
set_option maxRecDepth 100000 in
theorem lc_peek {p : Program} {l : Launch} {e : Env} {s : State} {m : MethodId} {below : List Frame} {meth : Method} {c : Code} {dC : Nat → ClassId} {dI : Nat → Nat → Nat} {b L : Nat} {xs : Nat → Int32} {cI cL h0 qme0 qre1 qco2 k0 km kr qo tN tB sa33 sa47 sa50 sa52 sa60 sa66 : Nat} (hnt : l.stackTraces = false) (hL : L ≤ 3072) (C0 : lw_At p s m meth c b L xs) (hK : va_K (dC, dI) vwCl [(cI, .int), (cL, .long)] s) (hZ : gZ tN tB (zA s.heap.size) s s.heap) (hX33 : gX "java/lang/IllegalArgumentException" "steps are 0 to 20000" 33 sa33 (zA s.heap.size) s s.heap) (hX47 : gX "java/lang/IndexOutOfBoundsException" "no word of the memory" 47 sa47 (zA s.heap.size) s s.heap) (hX50 : gX "java/lang/IndexOutOfBoundsException" "not four words of the memory" 50 sa50 (zA s.heap.size) s s.heap) (hX52 : gX "java/lang/IndexOutOfBoundsException" "registers are 0 to 33" 52 sa52 (zA s.heap.size) s s.heap) (hX60 : gX "java/util/NoSuchElementException" "no control of that number" 60 sa60 (zA s.heap.size) s s.heap) (hX66 : gX "java/lang/IllegalArgumentException" "how is 0, 1 or 2" 66 sa66 (zA s.heap.size) s s.heap) {j : Nat} {x4 : Int32} (hj : 6 * j + 6 ≤ L) (ex4 : x4 = nI (6 * j)) (next : ∀ (u : HS) (v : RS) (o : Nat → Int64) (H : Heap) (locs : List Loc), u = phi v → Inv (setTH v 0) → va_P (dC, dI) vwCl (lW cI cL h0 qme0 qre1 qco2 k0 km kr qo u v o) H → va_D (zA s.heap.size) (lW cI cL h0 qme0 qre1 qco2 k0 km kr qo u v o) → va_S (zA s.heap.size) s.heap H locs → ∀ (ls : Array Slot), lv_has ls 7 [(0, .ref b), (1, .ref h0), (2, .ref k0), (3, .ref qo), (4, .int x4)] → W p l e room_1 s m #[Value.ref b] below meth c H locs (8 + j + 1) (131170 + 6 * j + 6) (lw_Z below #[Value.ref b] s) (F0 m 629 ls [])) {u : HS} {v : RS} {o : Nat → Int64} {H : Heap} {locs : List Loc} (hu : u = phi v) (hi : Inv (setTH v 0)) (hP : va_P (dC, dI) vwCl (lW cI cL h0 qme0 qre1 qco2 k0 km kr qo u v o) H) (hD : va_D (zA s.heap.size) (lW cI cL h0 qme0 qre1 qco2 k0 km kr qo u v o)) (hS : va_S (zA s.heap.size) s.heap H locs) (ls : Array Slot) (hl : lv_has ls 7 [(0, .ref b), (1, .ref h0), (2, .ref k0), (3, .ref qo), (4, .int x4)]) : W p l e room_1 s m #[Value.ref b] below meth c H locs (8 + j) (131170 + 6 * j) (lw_Z below #[Value.ref b] s) (F0 m 165 ls []) := by
  obtain ⟨hx, hb, hr, hml, hown, hts, hX, hbl, hlocks, hgv⟩ := C0
  have htg : ∀ w ∈ gBIG, w.before #[Value.ref b] s = true := fun w h => hts w (gBIG_in w h)
  have hbA : ¬ (zA s.heap.size) b := Nat.not_le.mpr hbl
  have hroom : 8 + j + 1 ≤ room_1.cells ∧ 131170 + 6 * j + 6 ≤ room_1.slots := ⟨by show _ ≤ 601024; omega, by show _ ≤ 7293034; omega⟩
  have hroom0 : 8 + j ≤ room_1.cells ∧ 131170 + 6 * j ≤ room_1.slots := ⟨by show _ ≤ 601024; omega, by show _ ≤ 7293034; omega⟩
  have h_1 : vp_in (x4 + 1) L := by rw [ex4, show (1 : Int32) = nI 1 from rfl, nI_add']; exact vp_in_nI (by omega) (by omega)
  have h_2 : vp_in (x4 + 2) L := by rw [ex4, show (2 : Int32) = nI 2 from rfl, nI_add']; exact vp_in_nI (by omega) (by omega)
  have h_3 : vp_in (x4 + 3) L := by rw [ex4, show (3 : Int32) = nI 3 from rfl, nI_add']; exact vp_in_nI (by omega) (by omega)
  have h_4 : vp_in (x4 + 4) L := by rw [ex4, show (4 : Int32) = nI 4 from rfl, nI_add']; exact vp_in_nI (by omega) (by omega)
  have h_5 : vp_in (x4 + 5) L := by rw [ex4, show (5 : Int32) = nI 5 from rfl, nI_add']; exact vp_in_nI (by omega) (by omega)
  subst hu
  refine lv_aload_n hx hb dXL_law_165 rfl (lv_at hl 1 rfl) ?_
  refine lv_aload_n hx hb dXL_law_166 rfl (lv_at hl 0 rfl) ?_
  refine lv_iload hx hb dXL_law_167 (lv_at hl 4 rfl) ?_
  refine lv_iconst (v := 1) hx hb dXL_law_169 (by decide) ?_
  refine lv_iadd hx hb dXL_law_170 ?_
  refine va_sld hx hb hX hbl hbA hS h_1 dXL_law_171 ?_
  refine lv_aload_n hx hb dXL_law_172 rfl (lv_at hl 3 rfl) ?_
  refine lKI (As := [.ref h0, .int (xs (x4 + 1).toNatClampNeg), .ref qo]) (rest := []) ⟨hx, hb, hml, hown, htg⟩ (ck_peek l dC dI cI cL h0 qme0 qre1 qco2 qo tN tB hnt sa47 H.size (phi v) o (xs (x4 + 1).toNatClampNeg)) (vx_cwSW 3 htg (gSW mL_L_65 mS_L_peek mN_L mB_L_peek) rfl rfl rfl (by decide +kernel) ⟨Nat.le_of_ble_eq_true rfl, Nat.le_of_ble_eq_true rfl⟩) hK hP hD hS hZ hX47 rfl hl.1 rfl (Nat.le_of_ble_eq_true rfl) dXL_law_173 hroom (fun k z hk H locs hP hD hS => ?_)
  refine lv_istore (lv' := [(5, .int k), (0, .ref b), (1, .ref h0), (2, .ref k0), (3, .ref qo), (4, .int x4)]) hx hb dXL_law_176 hl (by decide) rfl (fun ls hl => ?_)
  refine lv_aload_n hx hb dXL_law_178 rfl (lv_at hl 3 rfl) ?_
  refine lv_aload_n hx hb dXL_law_179 rfl (lv_at hl 1 rfl) ?_
  refine lv_iload hx hb dXL_law_180 (lv_at hl 5 rfl) ?_
  refine lv_iconst (v := 1) hx hb dXL_law_182 (by decide) ?_
  refine lv_iadd hx hb dXL_law_183 ?_
  refine va_sld hx hb hX hbl hbA hS h_1 dXL_law_184 ?_
  refine lRI (As := [.int (xs (x4 + 1).toNatClampNeg)]) (rest := []) ⟨hx, hb, hml, hown, htg⟩ (cr_peek l dC dI cI k0 km kr tN tB H.size v (xs (x4 + 1).toNatClampNeg)) (cwV 1 htg (gV mL_L_67 mI_1_peek mX_1_peek mN_1 mB_1_peek) rfl rfl rfl (by decide +kernel) ⟨Nat.le_of_ble_eq_true rfl, Nat.le_of_ble_eq_true rfl⟩) hK hP hD hS rfl hl.1 rfl (Nat.le_of_ble_eq_true rfl) dXL_law_185 hroom (fun r hr9 H locs hP hD hS => ?_)
  obtain ⟨t1, t2, t3, t4⟩ := post_I (r := r) hk (by rw [hr9]; exact P_peek v (xs (x4 + 1).toNatClampNeg) hi)
  refine lv_istore (lv' := [(6, .int r.1), (5, .int k), (0, .ref b), (1, .ref h0), (2, .ref k0), (3, .ref qo), (4, .int x4)]) hx hb dXL_law_188 hl (by decide) rfl (fun ls hl => ?_)
  refine lv_aload_n hx hb dXL_law_190 rfl (lv_at hl 4 rfl) ?_
  refine lRR (As := []) (rest := []) ⟨hx, hb, hml, hown, htg⟩ (cr_thrown l dC dI cI k0 km kr tN tB H.size r.2) (cwV 0 htg (gV mL_L_56 mI_1_thrown mX_1_thrown mN_1 mB_1_thrown) rfl rfl rfl (by decide +kernel) ⟨Nat.le_of_ble_eq_true rfl, Nat.le_of_ble_eq_true rfl⟩) hK hP hD rfl hl.1 rfl (Nat.le_of_ble_eq_true rfl) dXL_law_191 hroom ?_
  refine lv_iload hx hb dXL_law_194 (lv_at hl 1 rfl) ?_
  refine lv_icmp_eq (tgt := 201) hx hb dXL_law_196 (by decide) (fun _ => ?_) (fun ne => absurd t1 ne)
  refine lv_iload hx hb dXL_law_201 (lv_at hl 1 rfl) ?_
  refine lv_if_ne (tgt := 218) hx hb dXL_law_203 (by decide) (fun _ => ?_) (fun ke => ?_)
  · refine lv_goto (tgt := 629) hx hb dXL_law_218 (by decide) ?_
    exact next _ _ _ _ _ t2 t4 hP hD hS ls (lv_sub hl [2, 3, 4, 5, 6] rfl)
  · refine lv_aload_n hx hb dXL_law_206 rfl (lv_at hl 5 rfl) ?_
    refine lv_iconst (v := 0) hx hb dXL_law_207 (by decide) ?_
    refine va_lald (D := (dC, dI)) hx hb hK hP 7 1 rfl rfl (jin (by decide)) dXL_law_208 ?_
    refine lv_iload hx hb dXL_law_209 (lv_at hl 0 rfl) ?_
    refine lv_i2l hx hb dXL_law_211 rfl ?_
    refine W.lcmp hx hb dXL_law_212 ?_
    rw [t3 ke, lg_self]
    refine lv_if_eq (tgt := 218) hx hb dXL_law_213 (by decide) (fun _ => ?_) (fun ne => absurd rfl ne)
    refine lv_goto (tgt := 629) hx hb dXL_law_218 (by decide) ?_
    exact next _ _ _ _ _ t2 t4 hP hD hS ls (lv_sub hl [2, 3, 4, 5, 6] rfl)
set_option maxHeartbeats 4000000 in
set_option maxRecDepth 100000 in
theorem lc_poke {p : Program} {l : Launch} {e : Env} {s : State} {m : MethodId} {below : List Frame} {meth : Method} {c : Code} {dC : Nat → ClassId} {dI : Nat → Nat → Nat} {b L : Nat} {xs : Nat → Int32} {cI cL h0 qme0 qre1 qco2 k0 km kr qo tN tB sa33 sa47 sa50 sa52 sa60 sa66 : Nat} (hnt : l.stackTraces = false) (hL : L ≤ 3072) (C0 : lw_At p s m meth c b L xs) (hK : va_K (dC, dI) vwCl [(cI, .int), (cL, .long)] s) (hZ : gZ tN tB (zA s.heap.size) s s.heap) (hX33 : gX "java/lang/IllegalArgumentException" "steps are 0 to 20000" 33 sa33 (zA s.heap.size) s s.heap) (hX47 : gX "java/lang/IndexOutOfBoundsException" "no word of the memory" 47 sa47 (zA s.heap.size) s s.heap) (hX50 : gX "java/lang/IndexOutOfBoundsException" "not four words of the memory" 50 sa50 (zA s.heap.size) s s.heap) (hX52 : gX "java/lang/IndexOutOfBoundsException" "registers are 0 to 33" 52 sa52 (zA s.heap.size) s s.heap) (hX60 : gX "java/util/NoSuchElementException" "no control of that number" 60 sa60 (zA s.heap.size) s s.heap) (hX66 : gX "java/lang/IllegalArgumentException" "how is 0, 1 or 2" 66 sa66 (zA s.heap.size) s s.heap) {j : Nat} {x4 : Int32} (hj : 6 * j + 6 ≤ L) (ex4 : x4 = nI (6 * j)) (next : ∀ (u : HS) (v : RS) (o : Nat → Int64) (H : Heap) (locs : List Loc), u = phi v → Inv (setTH v 0) → va_P (dC, dI) vwCl (lW cI cL h0 qme0 qre1 qco2 k0 km kr qo u v o) H → va_D (zA s.heap.size) (lW cI cL h0 qme0 qre1 qco2 k0 km kr qo u v o) → va_S (zA s.heap.size) s.heap H locs → ∀ (ls : Array Slot), lv_has ls 7 [(0, .ref b), (1, .ref h0), (2, .ref k0), (3, .ref qo), (4, .int x4)] → W p l e room_1 s m #[Value.ref b] below meth c H locs (8 + j + 1) (131170 + 6 * j + 6) (lw_Z below #[Value.ref b] s) (F0 m 629 ls [])) {u : HS} {v : RS} {o : Nat → Int64} {H : Heap} {locs : List Loc} (hu : u = phi v) (hi : Inv (setTH v 0)) (hP : va_P (dC, dI) vwCl (lW cI cL h0 qme0 qre1 qco2 k0 km kr qo u v o) H) (hD : va_D (zA s.heap.size) (lW cI cL h0 qme0 qre1 qco2 k0 km kr qo u v o)) (hS : va_S (zA s.heap.size) s.heap H locs) (ls : Array Slot) (hl : lv_has ls 7 [(0, .ref b), (1, .ref h0), (2, .ref k0), (3, .ref qo), (4, .int x4)]) : W p l e room_1 s m #[Value.ref b] below meth c H locs (8 + j) (131170 + 6 * j) (lw_Z below #[Value.ref b] s) (F0 m 221 ls []) := by
  obtain ⟨hx, hb, hr, hml, hown, hts, hX, hbl, hlocks, hgv⟩ := C0
  have htg : ∀ w ∈ gBIG, w.before #[Value.ref b] s = true := fun w h => hts w (gBIG_in w h)
  have hbA : ¬ (zA s.heap.size) b := Nat.not_le.mpr hbl
  have hroom : 8 + j + 1 ≤ room_1.cells ∧ 131170 + 6 * j + 6 ≤ room_1.slots := ⟨by show _ ≤ 601024; omega, by show _ ≤ 7293034; omega⟩
  have hroom0 : 8 + j ≤ room_1.cells ∧ 131170 + 6 * j ≤ room_1.slots := ⟨by show _ ≤ 601024; omega, by show _ ≤ 7293034; omega⟩
  have h_1 : vp_in (x4 + 1) L := by rw [ex4, show (1 : Int32) = nI 1 from rfl, nI_add']; exact vp_in_nI (by omega) (by omega)
  have h_2 : vp_in (x4 + 2) L := by rw [ex4, show (2 : Int32) = nI 2 from rfl, nI_add']; exact vp_in_nI (by omega) (by omega)
  have h_3 : vp_in (x4 + 3) L := by rw [ex4, show (3 : Int32) = nI 3 from rfl, nI_add']; exact vp_in_nI (by omega) (by omega)
  have h_4 : vp_in (x4 + 4) L := by rw [ex4, show (4 : Int32) = nI 4 from rfl, nI_add']; exact vp_in_nI (by omega) (by omega)
  have h_5 : vp_in (x4 + 5) L := by rw [ex4, show (5 : Int32) = nI 5 from rfl, nI_add']; exact vp_in_nI (by omega) (by omega)
  subst hu
  refine lv_aload_n hx hb dXL_law_221 rfl (lv_at hl 1 rfl) ?_
  refine lv_aload_n hx hb dXL_law_222 rfl (lv_at hl 0 rfl) ?_
  refine lv_iload hx hb dXL_law_223 (lv_at hl 4 rfl) ?_
  refine lv_iconst (v := 1) hx hb dXL_law_225 (by decide) ?_
  refine lv_iadd hx hb dXL_law_226 ?_
  refine va_sld hx hb hX hbl hbA hS h_1 dXL_law_227 ?_
  refine lv_aload_n hx hb dXL_law_228 rfl (lv_at hl 0 rfl) ?_
  refine lv_iload hx hb dXL_law_229 (lv_at hl 4 rfl) ?_
  refine lv_iconst (v := 2) hx hb dXL_law_231 (by decide) ?_
  refine lv_iadd hx hb dXL_law_232 ?_
  refine va_sld hx hb hX hbl hbA hS h_2 dXL_law_233 ?_
  refine lKV (As := [.ref h0, .int (xs (x4 + 1).toNatClampNeg), .int (xs (x4 + 2).toNatClampNeg)]) (rest := []) ⟨hx, hb, hml, hown, htg⟩ (ck_poke l dC dI cI h0 qme0 qre1 qco2 tN tB hnt sa47 H.size (phi v) (xs (x4 + 1).toNatClampNeg) (xs (x4 + 2).toNatClampNeg)) (vx_cwSW 3 htg (gSW mL_L_68 mS_L_poke mN_L mB_L_poke) rfl rfl rfl (by decide +kernel) ⟨Nat.le_of_ble_eq_true rfl, Nat.le_of_ble_eq_true rfl⟩) hK hP hD hS hZ hX47 rfl hl.1 rfl (Nat.le_of_ble_eq_true rfl) dXL_law_234 hroom (fun k z hk H locs hP hD hS => ?_)
  refine lv_istore (lv' := [(5, .int k), (0, .ref b), (1, .ref h0), (2, .ref k0), (3, .ref qo), (4, .int x4)]) hx hb dXL_law_237 hl (by decide) rfl (fun ls hl => ?_)
  refine lv_aload_n hx hb dXL_law_239 rfl (lv_at hl 3 rfl) ?_
  refine lv_aload_n hx hb dXL_law_240 rfl (lv_at hl 1 rfl) ?_
  refine lv_iload hx hb dXL_law_241 (lv_at hl 5 rfl) ?_
  refine lv_iconst (v := 1) hx hb dXL_law_243 (by decide) ?_
  refine lv_iadd hx hb dXL_law_244 ?_
  refine va_sld hx hb hX hbl hbA hS h_1 dXL_law_245 ?_
  refine lv_aload_n hx hb dXL_law_246 rfl (lv_at hl 1 rfl) ?_
  refine lv_iload hx hb dXL_law_247 (lv_at hl 5 rfl) ?_
  refine lv_iconst (v := 2) hx hb dXL_law_249 (by decide) ?_
  refine lv_iadd hx hb dXL_law_250 ?_
  refine va_sld hx hb hX hbl hbA hS h_2 dXL_law_251 ?_
  refine lRV (As := [.int (xs (x4 + 1).toNatClampNeg), .int (xs (x4 + 2).toNatClampNeg)]) (rest := []) ⟨hx, hb, hml, hown, htg⟩ (cr_poke l dC dI cI k0 km kr tN tB H.size v (xs (x4 + 1).toNatClampNeg) (xs (x4 + 2).toNatClampNeg)) (cwV 2 htg (gV mL_L_71 mI_1_poke mX_1_poke mN_1 mB_1_poke) rfl rfl rfl (by decide +kernel) ⟨Nat.le_of_ble_eq_true rfl, Nat.le_of_ble_eq_true rfl⟩) hK hP hD hS rfl hl.1 rfl (Nat.le_of_ble_eq_true rfl) dXL_law_252 hroom (fun r hr9 H locs hP hD hS => ?_)
  obtain ⟨t1, t2, t4⟩ := post_V (r := r) hk (by rw [hr9]; exact P_poke v (xs (x4 + 1).toNatClampNeg) (xs (x4 + 2).toNatClampNeg) hi)
  refine lv_aload_n hx hb dXL_law_255 rfl (lv_at hl 3 rfl) ?_
  refine lRR (As := []) (rest := []) ⟨hx, hb, hml, hown, htg⟩ (cr_thrown l dC dI cI k0 km kr tN tB H.size r) (cwV 0 htg (gV mL_L_56 mI_1_thrown mX_1_thrown mN_1 mB_1_thrown) rfl rfl rfl (by decide +kernel) ⟨Nat.le_of_ble_eq_true rfl, Nat.le_of_ble_eq_true rfl⟩) hK hP hD rfl hl.1 rfl (Nat.le_of_ble_eq_true rfl) dXL_law_256 hroom ?_
  refine lv_iload hx hb dXL_law_259 (lv_at hl 0 rfl) ?_
  refine lv_icmp_eq (tgt := 266) hx hb dXL_law_261 (by decide) (fun _ => ?_) (fun ne => absurd t1 ne)
  refine lv_goto (tgt := 629) hx hb dXL_law_266 (by decide) ?_
  exact next _ _ _ _ _ t2 t4 hP hD hS ls (lv_sub hl [1, 2, 3, 4, 5] rfl)
set_option maxHeartbeats 4000000 in
set_option maxRecDepth 100000 in
theorem lc_pokeFour {p : Program} {l : Launch} {e : Env} {s : State} {m : MethodId} {below : List Frame} {meth : Method} {c : Code} {dC : Nat → ClassId} {dI : Nat → Nat → Nat} {b L : Nat} {xs : Nat → Int32} {cI cL h0 qme0 qre1 qco2 k0 km kr qo tN tB sa33 sa47 sa50 sa52 sa60 sa66 : Nat} (hnt : l.stackTraces = false) (hL : L ≤ 3072) (C0 : lw_At p s m meth c b L xs) (hK : va_K (dC, dI) vwCl [(cI, .int), (cL, .long)] s) (hZ : gZ tN tB (zA s.heap.size) s s.heap) (hX33 : gX "java/lang/IllegalArgumentException" "steps are 0 to 20000" 33 sa33 (zA s.heap.size) s s.heap) (hX47 : gX "java/lang/IndexOutOfBoundsException" "no word of the memory" 47 sa47 (zA s.heap.size) s s.heap) (hX50 : gX "java/lang/IndexOutOfBoundsException" "not four words of the memory" 50 sa50 (zA s.heap.size) s s.heap) (hX52 : gX "java/lang/IndexOutOfBoundsException" "registers are 0 to 33" 52 sa52 (zA s.heap.size) s s.heap) (hX60 : gX "java/util/NoSuchElementException" "no control of that number" 60 sa60 (zA s.heap.size) s s.heap) (hX66 : gX "java/lang/IllegalArgumentException" "how is 0, 1 or 2" 66 sa66 (zA s.heap.size) s s.heap) {j : Nat} {x4 : Int32} (hj : 6 * j + 6 ≤ L) (ex4 : x4 = nI (6 * j)) (next : ∀ (u : HS) (v : RS) (o : Nat → Int64) (H : Heap) (locs : List Loc), u = phi v → Inv (setTH v 0) → va_P (dC, dI) vwCl (lW cI cL h0 qme0 qre1 qco2 k0 km kr qo u v o) H → va_D (zA s.heap.size) (lW cI cL h0 qme0 qre1 qco2 k0 km kr qo u v o) → va_S (zA s.heap.size) s.heap H locs → ∀ (ls : Array Slot), lv_has ls 7 [(0, .ref b), (1, .ref h0), (2, .ref k0), (3, .ref qo), (4, .int x4)] → W p l e room_1 s m #[Value.ref b] below meth c H locs (8 + j + 1) (131170 + 6 * j + 6) (lw_Z below #[Value.ref b] s) (F0 m 629 ls [])) {u : HS} {v : RS} {o : Nat → Int64} {H : Heap} {locs : List Loc} (hu : u = phi v) (hi : Inv (setTH v 0)) (hP : va_P (dC, dI) vwCl (lW cI cL h0 qme0 qre1 qco2 k0 km kr qo u v o) H) (hD : va_D (zA s.heap.size) (lW cI cL h0 qme0 qre1 qco2 k0 km kr qo u v o)) (hS : va_S (zA s.heap.size) s.heap H locs) (ls : Array Slot) (hl : lv_has ls 7 [(0, .ref b), (1, .ref h0), (2, .ref k0), (3, .ref qo), (4, .int x4)]) : W p l e room_1 s m #[Value.ref b] below meth c H locs (8 + j) (131170 + 6 * j) (lw_Z below #[Value.ref b] s) (F0 m 269 ls []) := by
  obtain ⟨hx, hb, hr, hml, hown, hts, hX, hbl, hlocks, hgv⟩ := C0
  have htg : ∀ w ∈ gBIG, w.before #[Value.ref b] s = true := fun w h => hts w (gBIG_in w h)
  have hbA : ¬ (zA s.heap.size) b := Nat.not_le.mpr hbl
  have hroom : 8 + j + 1 ≤ room_1.cells ∧ 131170 + 6 * j + 6 ≤ room_1.slots := ⟨by show _ ≤ 601024; omega, by show _ ≤ 7293034; omega⟩
  have hroom0 : 8 + j ≤ room_1.cells ∧ 131170 + 6 * j ≤ room_1.slots := ⟨by show _ ≤ 601024; omega, by show _ ≤ 7293034; omega⟩
  have h_1 : vp_in (x4 + 1) L := by rw [ex4, show (1 : Int32) = nI 1 from rfl, nI_add']; exact vp_in_nI (by omega) (by omega)
  have h_2 : vp_in (x4 + 2) L := by rw [ex4, show (2 : Int32) = nI 2 from rfl, nI_add']; exact vp_in_nI (by omega) (by omega)
  have h_3 : vp_in (x4 + 3) L := by rw [ex4, show (3 : Int32) = nI 3 from rfl, nI_add']; exact vp_in_nI (by omega) (by omega)
  have h_4 : vp_in (x4 + 4) L := by rw [ex4, show (4 : Int32) = nI 4 from rfl, nI_add']; exact vp_in_nI (by omega) (by omega)
  have h_5 : vp_in (x4 + 5) L := by rw [ex4, show (5 : Int32) = nI 5 from rfl, nI_add']; exact vp_in_nI (by omega) (by omega)
  subst hu
  refine lv_aload_n hx hb dXL_law_269 rfl (lv_at hl 1 rfl) ?_
  refine lv_aload_n hx hb dXL_law_270 rfl (lv_at hl 0 rfl) ?_
  refine lv_iload hx hb dXL_law_271 (lv_at hl 4 rfl) ?_
  refine lv_iconst (v := 1) hx hb dXL_law_273 (by decide) ?_
  refine lv_iadd hx hb dXL_law_274 ?_
  refine va_sld hx hb hX hbl hbA hS h_1 dXL_law_275 ?_
  refine lv_aload_n hx hb dXL_law_276 rfl (lv_at hl 0 rfl) ?_
  refine lv_iload hx hb dXL_law_277 (lv_at hl 4 rfl) ?_
  refine lv_iconst (v := 2) hx hb dXL_law_279 (by decide) ?_
  refine lv_iadd hx hb dXL_law_280 ?_
  refine va_sld hx hb hX hbl hbA hS h_2 dXL_law_281 ?_
  refine lv_aload_n hx hb dXL_law_282 rfl (lv_at hl 0 rfl) ?_
  refine lv_iload hx hb dXL_law_283 (lv_at hl 4 rfl) ?_
  refine lv_iconst (v := 3) hx hb dXL_law_285 (by decide) ?_
  refine lv_iadd hx hb dXL_law_286 ?_
  refine va_sld hx hb hX hbl hbA hS h_3 dXL_law_287 ?_
  refine lv_aload_n hx hb dXL_law_288 rfl (lv_at hl 0 rfl) ?_
  refine lv_iload hx hb dXL_law_289 (lv_at hl 4 rfl) ?_
  refine lv_iconst (v := 4) hx hb dXL_law_291 (by decide) ?_
  refine lv_iadd hx hb dXL_law_292 ?_
  refine va_sld hx hb hX hbl hbA hS h_4 dXL_law_293 ?_
  refine lv_aload_n hx hb dXL_law_294 rfl (lv_at hl 0 rfl) ?_
  refine lv_iload hx hb dXL_law_295 (lv_at hl 4 rfl) ?_
  refine lv_iconst (v := 5) hx hb dXL_law_297 (by decide) ?_
  refine lv_iadd hx hb dXL_law_298 ?_
  refine va_sld hx hb hX hbl hbA hS h_5 dXL_law_299 ?_
  refine lKV (As := [.ref h0, .int (xs (x4 + 1).toNatClampNeg), .int (xs (x4 + 2).toNatClampNeg), .int (xs (x4 + 3).toNatClampNeg), .int (xs (x4 + 4).toNatClampNeg), .int (xs (x4 + 5).toNatClampNeg)]) (rest := []) ⟨hx, hb, hml, hown, htg⟩ (ck_pokeFour l dC dI cI h0 qme0 qre1 qco2 tN tB hnt sa50 H.size (phi v) (xs (x4 + 1).toNatClampNeg) (xs (x4 + 2).toNatClampNeg) (xs (x4 + 3).toNatClampNeg) (xs (x4 + 4).toNatClampNeg) (xs (x4 + 5).toNatClampNeg)) (vx_cwSW 6 htg (gSW mL_L_72 mS_L_pokeFour mN_L mB_L_pokeFour) rfl rfl rfl (by decide +kernel) ⟨Nat.le_of_ble_eq_true rfl, Nat.le_of_ble_eq_true rfl⟩) hK hP hD hS hZ hX50 rfl hl.1 rfl (Nat.le_of_ble_eq_true rfl) dXL_law_300 hroom (fun k z hk H locs hP hD hS => ?_)
  refine lv_istore (lv' := [(5, .int k), (0, .ref b), (1, .ref h0), (2, .ref k0), (3, .ref qo), (4, .int x4)]) hx hb dXL_law_303 hl (by decide) rfl (fun ls hl => ?_)
  refine lv_aload_n hx hb dXL_law_305 rfl (lv_at hl 3 rfl) ?_
  refine lv_aload_n hx hb dXL_law_306 rfl (lv_at hl 1 rfl) ?_
  refine lv_iload hx hb dXL_law_307 (lv_at hl 5 rfl) ?_
  refine lv_iconst (v := 1) hx hb dXL_law_309 (by decide) ?_
  refine lv_iadd hx hb dXL_law_310 ?_
  refine va_sld hx hb hX hbl hbA hS h_1 dXL_law_311 ?_
  refine lv_aload_n hx hb dXL_law_312 rfl (lv_at hl 1 rfl) ?_
  refine lv_iload hx hb dXL_law_313 (lv_at hl 5 rfl) ?_
  refine lv_iconst (v := 2) hx hb dXL_law_315 (by decide) ?_
  refine lv_iadd hx hb dXL_law_316 ?_
  refine va_sld hx hb hX hbl hbA hS h_2 dXL_law_317 ?_
  refine lv_aload_n hx hb dXL_law_318 rfl (lv_at hl 1 rfl) ?_
  refine lv_iload hx hb dXL_law_319 (lv_at hl 5 rfl) ?_
  refine lv_iconst (v := 3) hx hb dXL_law_321 (by decide) ?_
  refine lv_iadd hx hb dXL_law_322 ?_
  refine va_sld hx hb hX hbl hbA hS h_3 dXL_law_323 ?_
  refine lv_aload_n hx hb dXL_law_324 rfl (lv_at hl 1 rfl) ?_
  refine lv_iload hx hb dXL_law_325 (lv_at hl 5 rfl) ?_
  refine lv_iconst (v := 4) hx hb dXL_law_327 (by decide) ?_
  refine lv_iadd hx hb dXL_law_328 ?_
  refine va_sld hx hb hX hbl hbA hS h_4 dXL_law_329 ?_
  refine lv_aload_n hx hb dXL_law_330 rfl (lv_at hl 1 rfl) ?_
  refine lv_iload hx hb dXL_law_331 (lv_at hl 5 rfl) ?_
  refine lv_iconst (v := 5) hx hb dXL_law_333 (by decide) ?_
  refine lv_iadd hx hb dXL_law_334 ?_
  refine va_sld hx hb hX hbl hbA hS h_5 dXL_law_335 ?_
  refine lRV (As := [.int (xs (x4 + 1).toNatClampNeg), .int (xs (x4 + 2).toNatClampNeg), .int (xs (x4 + 3).toNatClampNeg), .int (xs (x4 + 4).toNatClampNeg), .int (xs (x4 + 5).toNatClampNeg)]) (rest := []) ⟨hx, hb, hml, hown, htg⟩ (cr_pokeFour l dC dI cI k0 km kr tN tB H.size v (xs (x4 + 1).toNatClampNeg) (xs (x4 + 2).toNatClampNeg) (xs (x4 + 3).toNatClampNeg) (xs (x4 + 4).toNatClampNeg) (xs (x4 + 5).toNatClampNeg)) (cwV 5 htg (gV mL_L_75 mI_1_pokeFour mX_1_pokeFour mN_1 mB_1_pokeFour) rfl rfl rfl (by decide +kernel) ⟨Nat.le_of_ble_eq_true rfl, Nat.le_of_ble_eq_true rfl⟩) hK hP hD hS rfl hl.1 rfl (Nat.le_of_ble_eq_true rfl) dXL_law_336 hroom (fun r hr9 H locs hP hD hS => ?_)
  obtain ⟨t1, t2, t4⟩ := post_V (r := r) hk (by rw [hr9]; exact P_pokeFour v (xs (x4 + 1).toNatClampNeg) (xs (x4 + 2).toNatClampNeg) (xs (x4 + 3).toNatClampNeg) (xs (x4 + 4).toNatClampNeg) (xs (x4 + 5).toNatClampNeg) hi)
  refine lv_aload_n hx hb dXL_law_339 rfl (lv_at hl 3 rfl) ?_
  refine lRR (As := []) (rest := []) ⟨hx, hb, hml, hown, htg⟩ (cr_thrown l dC dI cI k0 km kr tN tB H.size r) (cwV 0 htg (gV mL_L_56 mI_1_thrown mX_1_thrown mN_1 mB_1_thrown) rfl rfl rfl (by decide +kernel) ⟨Nat.le_of_ble_eq_true rfl, Nat.le_of_ble_eq_true rfl⟩) hK hP hD rfl hl.1 rfl (Nat.le_of_ble_eq_true rfl) dXL_law_340 hroom ?_
  refine lv_iload hx hb dXL_law_343 (lv_at hl 0 rfl) ?_
  refine lv_icmp_eq (tgt := 350) hx hb dXL_law_345 (by decide) (fun _ => ?_) (fun ne => absurd t1 ne)
  refine lv_goto (tgt := 629) hx hb dXL_law_350 (by decide) ?_
  exact next _ _ _ _ _ t2 t4 hP hD hS ls (lv_sub hl [1, 2, 3, 4, 5] rfl)
set_option maxHeartbeats 4000000 in
set_option maxRecDepth 100000 in
theorem lc_register {p : Program} {l : Launch} {e : Env} {s : State} {m : MethodId} {below : List Frame} {meth : Method} {c : Code} {dC : Nat → ClassId} {dI : Nat → Nat → Nat} {b L : Nat} {xs : Nat → Int32} {cI cL h0 qme0 qre1 qco2 k0 km kr qo tN tB sa33 sa47 sa50 sa52 sa60 sa66 : Nat} (hnt : l.stackTraces = false) (hL : L ≤ 3072) (C0 : lw_At p s m meth c b L xs) (hK : va_K (dC, dI) vwCl [(cI, .int), (cL, .long)] s) (hZ : gZ tN tB (zA s.heap.size) s s.heap) (hX33 : gX "java/lang/IllegalArgumentException" "steps are 0 to 20000" 33 sa33 (zA s.heap.size) s s.heap) (hX47 : gX "java/lang/IndexOutOfBoundsException" "no word of the memory" 47 sa47 (zA s.heap.size) s s.heap) (hX50 : gX "java/lang/IndexOutOfBoundsException" "not four words of the memory" 50 sa50 (zA s.heap.size) s s.heap) (hX52 : gX "java/lang/IndexOutOfBoundsException" "registers are 0 to 33" 52 sa52 (zA s.heap.size) s s.heap) (hX60 : gX "java/util/NoSuchElementException" "no control of that number" 60 sa60 (zA s.heap.size) s s.heap) (hX66 : gX "java/lang/IllegalArgumentException" "how is 0, 1 or 2" 66 sa66 (zA s.heap.size) s s.heap) {j : Nat} {x4 : Int32} (hj : 6 * j + 6 ≤ L) (ex4 : x4 = nI (6 * j)) (next : ∀ (u : HS) (v : RS) (o : Nat → Int64) (H : Heap) (locs : List Loc), u = phi v → Inv (setTH v 0) → va_P (dC, dI) vwCl (lW cI cL h0 qme0 qre1 qco2 k0 km kr qo u v o) H → va_D (zA s.heap.size) (lW cI cL h0 qme0 qre1 qco2 k0 km kr qo u v o) → va_S (zA s.heap.size) s.heap H locs → ∀ (ls : Array Slot), lv_has ls 7 [(0, .ref b), (1, .ref h0), (2, .ref k0), (3, .ref qo), (4, .int x4)] → W p l e room_1 s m #[Value.ref b] below meth c H locs (8 + j + 1) (131170 + 6 * j + 6) (lw_Z below #[Value.ref b] s) (F0 m 629 ls [])) {u : HS} {v : RS} {o : Nat → Int64} {H : Heap} {locs : List Loc} (hu : u = phi v) (hi : Inv (setTH v 0)) (hP : va_P (dC, dI) vwCl (lW cI cL h0 qme0 qre1 qco2 k0 km kr qo u v o) H) (hD : va_D (zA s.heap.size) (lW cI cL h0 qme0 qre1 qco2 k0 km kr qo u v o)) (hS : va_S (zA s.heap.size) s.heap H locs) (ls : Array Slot) (hl : lv_has ls 7 [(0, .ref b), (1, .ref h0), (2, .ref k0), (3, .ref qo), (4, .int x4)]) : W p l e room_1 s m #[Value.ref b] below meth c H locs (8 + j) (131170 + 6 * j) (lw_Z below #[Value.ref b] s) (F0 m 353 ls []) := by
  obtain ⟨hx, hb, hr, hml, hown, hts, hX, hbl, hlocks, hgv⟩ := C0
  have htg : ∀ w ∈ gBIG, w.before #[Value.ref b] s = true := fun w h => hts w (gBIG_in w h)
  have hbA : ¬ (zA s.heap.size) b := Nat.not_le.mpr hbl
  have hroom : 8 + j + 1 ≤ room_1.cells ∧ 131170 + 6 * j + 6 ≤ room_1.slots := ⟨by show _ ≤ 601024; omega, by show _ ≤ 7293034; omega⟩
  have hroom0 : 8 + j ≤ room_1.cells ∧ 131170 + 6 * j ≤ room_1.slots := ⟨by show _ ≤ 601024; omega, by show _ ≤ 7293034; omega⟩
  have h_1 : vp_in (x4 + 1) L := by rw [ex4, show (1 : Int32) = nI 1 from rfl, nI_add']; exact vp_in_nI (by omega) (by omega)
  have h_2 : vp_in (x4 + 2) L := by rw [ex4, show (2 : Int32) = nI 2 from rfl, nI_add']; exact vp_in_nI (by omega) (by omega)
  have h_3 : vp_in (x4 + 3) L := by rw [ex4, show (3 : Int32) = nI 3 from rfl, nI_add']; exact vp_in_nI (by omega) (by omega)
  have h_4 : vp_in (x4 + 4) L := by rw [ex4, show (4 : Int32) = nI 4 from rfl, nI_add']; exact vp_in_nI (by omega) (by omega)
  have h_5 : vp_in (x4 + 5) L := by rw [ex4, show (5 : Int32) = nI 5 from rfl, nI_add']; exact vp_in_nI (by omega) (by omega)
  subst hu
  refine lv_aload_n hx hb dXL_law_353 rfl (lv_at hl 1 rfl) ?_
  refine lv_aload_n hx hb dXL_law_354 rfl (lv_at hl 0 rfl) ?_
  refine lv_iload hx hb dXL_law_355 (lv_at hl 4 rfl) ?_
  refine lv_iconst (v := 1) hx hb dXL_law_357 (by decide) ?_
  refine lv_iadd hx hb dXL_law_358 ?_
  refine va_sld hx hb hX hbl hbA hS h_1 dXL_law_359 ?_
  refine lv_aload_n hx hb dXL_law_360 rfl (lv_at hl 3 rfl) ?_
  refine lKI (As := [.ref h0, .int (xs (x4 + 1).toNatClampNeg), .ref qo]) (rest := []) ⟨hx, hb, hml, hown, htg⟩ (ck_register l dC dI cI cL h0 qme0 qre1 qco2 qo tN tB hnt sa52 H.size (phi v) o (xs (x4 + 1).toNatClampNeg)) (vx_cwSW 3 htg (gSW mL_L_76 mS_L_register mN_L mB_L_register) rfl rfl rfl (by decide +kernel) ⟨Nat.le_of_ble_eq_true rfl, Nat.le_of_ble_eq_true rfl⟩) hK hP hD hS hZ hX52 rfl hl.1 rfl (Nat.le_of_ble_eq_true rfl) dXL_law_361 hroom (fun k z hk H locs hP hD hS => ?_)
  refine lv_istore (lv' := [(5, .int k), (0, .ref b), (1, .ref h0), (2, .ref k0), (3, .ref qo), (4, .int x4)]) hx hb dXL_law_364 hl (by decide) rfl (fun ls hl => ?_)
  refine lv_aload_n hx hb dXL_law_366 rfl (lv_at hl 3 rfl) ?_
  refine lv_aload_n hx hb dXL_law_367 rfl (lv_at hl 1 rfl) ?_
  refine lv_iload hx hb dXL_law_368 (lv_at hl 5 rfl) ?_
  refine lv_iconst (v := 1) hx hb dXL_law_370 (by decide) ?_
  refine lv_iadd hx hb dXL_law_371 ?_
  refine va_sld hx hb hX hbl hbA hS h_1 dXL_law_372 ?_
  refine lRI (As := [.int (xs (x4 + 1).toNatClampNeg)]) (rest := []) ⟨hx, hb, hml, hown, htg⟩ (cr_register l dC dI cI k0 km kr tN tB H.size v (xs (x4 + 1).toNatClampNeg)) (cwV 1 htg (gV mL_L_78 mI_1_register mX_1_register mN_1 mB_1_register) rfl rfl rfl (by decide +kernel) ⟨Nat.le_of_ble_eq_true rfl, Nat.le_of_ble_eq_true rfl⟩) hK hP hD hS rfl hl.1 rfl (Nat.le_of_ble_eq_true rfl) dXL_law_373 hroom (fun r hr9 H locs hP hD hS => ?_)
  obtain ⟨t1, t2, t3, t4⟩ := post_I (r := r) hk (by rw [hr9]; exact P_register v (xs (x4 + 1).toNatClampNeg) hi)
  refine lv_istore (lv' := [(6, .int r.1), (5, .int k), (0, .ref b), (1, .ref h0), (2, .ref k0), (3, .ref qo), (4, .int x4)]) hx hb dXL_law_376 hl (by decide) rfl (fun ls hl => ?_)
  refine lv_aload_n hx hb dXL_law_378 rfl (lv_at hl 4 rfl) ?_
  refine lRR (As := []) (rest := []) ⟨hx, hb, hml, hown, htg⟩ (cr_thrown l dC dI cI k0 km kr tN tB H.size r.2) (cwV 0 htg (gV mL_L_56 mI_1_thrown mX_1_thrown mN_1 mB_1_thrown) rfl rfl rfl (by decide +kernel) ⟨Nat.le_of_ble_eq_true rfl, Nat.le_of_ble_eq_true rfl⟩) hK hP hD rfl hl.1 rfl (Nat.le_of_ble_eq_true rfl) dXL_law_379 hroom ?_
  refine lv_iload hx hb dXL_law_382 (lv_at hl 1 rfl) ?_
  refine lv_icmp_eq (tgt := 389) hx hb dXL_law_384 (by decide) (fun _ => ?_) (fun ne => absurd t1 ne)
  refine lv_iload hx hb dXL_law_389 (lv_at hl 1 rfl) ?_
  refine lv_if_ne (tgt := 406) hx hb dXL_law_391 (by decide) (fun _ => ?_) (fun ke => ?_)
  · refine lv_goto (tgt := 629) hx hb dXL_law_406 (by decide) ?_
    exact next _ _ _ _ _ t2 t4 hP hD hS ls (lv_sub hl [2, 3, 4, 5, 6] rfl)
  · refine lv_aload_n hx hb dXL_law_394 rfl (lv_at hl 5 rfl) ?_
    refine lv_iconst (v := 0) hx hb dXL_law_395 (by decide) ?_
    refine va_lald (D := (dC, dI)) hx hb hK hP 7 1 rfl rfl (jin (by decide)) dXL_law_396 ?_
    refine lv_iload hx hb dXL_law_397 (lv_at hl 0 rfl) ?_
    refine lv_i2l hx hb dXL_law_399 rfl ?_
    refine W.lcmp hx hb dXL_law_400 ?_
    rw [t3 ke, lg_self]
    refine lv_if_eq (tgt := 406) hx hb dXL_law_401 (by decide) (fun _ => ?_) (fun ne => absurd rfl ne)
    refine lv_goto (tgt := 629) hx hb dXL_law_406 (by decide) ?_
    exact next _ _ _ _ _ t2 t4 hP hD hS ls (lv_sub hl [2, 3, 4, 5, 6] rfl)
set_option maxHeartbeats 4000000 in
set_option maxRecDepth 100000 in
theorem lc_setRegister {p : Program} {l : Launch} {e : Env} {s : State} {m : MethodId} {below : List Frame} {meth : Method} {c : Code} {dC : Nat → ClassId} {dI : Nat → Nat → Nat} {b L : Nat} {xs : Nat → Int32} {cI cL h0 qme0 qre1 qco2 k0 km kr qo tN tB sa33 sa47 sa50 sa52 sa60 sa66 : Nat} (hnt : l.stackTraces = false) (hL : L ≤ 3072) (C0 : lw_At p s m meth c b L xs) (hK : va_K (dC, dI) vwCl [(cI, .int), (cL, .long)] s) (hZ : gZ tN tB (zA s.heap.size) s s.heap) (hX33 : gX "java/lang/IllegalArgumentException" "steps are 0 to 20000" 33 sa33 (zA s.heap.size) s s.heap) (hX47 : gX "java/lang/IndexOutOfBoundsException" "no word of the memory" 47 sa47 (zA s.heap.size) s s.heap) (hX50 : gX "java/lang/IndexOutOfBoundsException" "not four words of the memory" 50 sa50 (zA s.heap.size) s s.heap) (hX52 : gX "java/lang/IndexOutOfBoundsException" "registers are 0 to 33" 52 sa52 (zA s.heap.size) s s.heap) (hX60 : gX "java/util/NoSuchElementException" "no control of that number" 60 sa60 (zA s.heap.size) s s.heap) (hX66 : gX "java/lang/IllegalArgumentException" "how is 0, 1 or 2" 66 sa66 (zA s.heap.size) s s.heap) {j : Nat} {x4 : Int32} (hj : 6 * j + 6 ≤ L) (ex4 : x4 = nI (6 * j)) (next : ∀ (u : HS) (v : RS) (o : Nat → Int64) (H : Heap) (locs : List Loc), u = phi v → Inv (setTH v 0) → va_P (dC, dI) vwCl (lW cI cL h0 qme0 qre1 qco2 k0 km kr qo u v o) H → va_D (zA s.heap.size) (lW cI cL h0 qme0 qre1 qco2 k0 km kr qo u v o) → va_S (zA s.heap.size) s.heap H locs → ∀ (ls : Array Slot), lv_has ls 7 [(0, .ref b), (1, .ref h0), (2, .ref k0), (3, .ref qo), (4, .int x4)] → W p l e room_1 s m #[Value.ref b] below meth c H locs (8 + j + 1) (131170 + 6 * j + 6) (lw_Z below #[Value.ref b] s) (F0 m 629 ls [])) {u : HS} {v : RS} {o : Nat → Int64} {H : Heap} {locs : List Loc} (hu : u = phi v) (hi : Inv (setTH v 0)) (hP : va_P (dC, dI) vwCl (lW cI cL h0 qme0 qre1 qco2 k0 km kr qo u v o) H) (hD : va_D (zA s.heap.size) (lW cI cL h0 qme0 qre1 qco2 k0 km kr qo u v o)) (hS : va_S (zA s.heap.size) s.heap H locs) (ls : Array Slot) (hl : lv_has ls 7 [(0, .ref b), (1, .ref h0), (2, .ref k0), (3, .ref qo), (4, .int x4)]) : W p l e room_1 s m #[Value.ref b] below meth c H locs (8 + j) (131170 + 6 * j) (lw_Z below #[Value.ref b] s) (F0 m 409 ls []) := by
  obtain ⟨hx, hb, hr, hml, hown, hts, hX, hbl, hlocks, hgv⟩ := C0
  have htg : ∀ w ∈ gBIG, w.before #[Value.ref b] s = true := fun w h => hts w (gBIG_in w h)
  have hbA : ¬ (zA s.heap.size) b := Nat.not_le.mpr hbl
  have hroom : 8 + j + 1 ≤ room_1.cells ∧ 131170 + 6 * j + 6 ≤ room_1.slots := ⟨by show _ ≤ 601024; omega, by show _ ≤ 7293034; omega⟩
  have hroom0 : 8 + j ≤ room_1.cells ∧ 131170 + 6 * j ≤ room_1.slots := ⟨by show _ ≤ 601024; omega, by show _ ≤ 7293034; omega⟩
  have h_1 : vp_in (x4 + 1) L := by rw [ex4, show (1 : Int32) = nI 1 from rfl, nI_add']; exact vp_in_nI (by omega) (by omega)
  have h_2 : vp_in (x4 + 2) L := by rw [ex4, show (2 : Int32) = nI 2 from rfl, nI_add']; exact vp_in_nI (by omega) (by omega)
  have h_3 : vp_in (x4 + 3) L := by rw [ex4, show (3 : Int32) = nI 3 from rfl, nI_add']; exact vp_in_nI (by omega) (by omega)
  have h_4 : vp_in (x4 + 4) L := by rw [ex4, show (4 : Int32) = nI 4 from rfl, nI_add']; exact vp_in_nI (by omega) (by omega)
  have h_5 : vp_in (x4 + 5) L := by rw [ex4, show (5 : Int32) = nI 5 from rfl, nI_add']; exact vp_in_nI (by omega) (by omega)
  subst hu
  refine lv_aload_n hx hb dXL_law_409 rfl (lv_at hl 1 rfl) ?_
  refine lv_aload_n hx hb dXL_law_410 rfl (lv_at hl 0 rfl) ?_
  refine lv_iload hx hb dXL_law_411 (lv_at hl 4 rfl) ?_
  refine lv_iconst (v := 1) hx hb dXL_law_413 (by decide) ?_
  refine lv_iadd hx hb dXL_law_414 ?_
  refine va_sld hx hb hX hbl hbA hS h_1 dXL_law_415 ?_
  refine lv_aload_n hx hb dXL_law_416 rfl (lv_at hl 0 rfl) ?_
  refine lv_iload hx hb dXL_law_417 (lv_at hl 4 rfl) ?_
  refine lv_iconst (v := 2) hx hb dXL_law_419 (by decide) ?_
  refine lv_iadd hx hb dXL_law_420 ?_
  refine va_sld hx hb hX hbl hbA hS h_2 dXL_law_421 ?_
  refine lKV (As := [.ref h0, .int (xs (x4 + 1).toNatClampNeg), .int (xs (x4 + 2).toNatClampNeg)]) (rest := []) ⟨hx, hb, hml, hown, htg⟩ (ck_setRegister l dC dI cI h0 qme0 qre1 qco2 tN tB hnt sa52 H.size (phi v) (xs (x4 + 1).toNatClampNeg) (xs (x4 + 2).toNatClampNeg)) (vx_cwSW 3 htg (gSW mL_L_79 mS_L_setRegister mN_L mB_L_setRegister) rfl rfl rfl (by decide +kernel) ⟨Nat.le_of_ble_eq_true rfl, Nat.le_of_ble_eq_true rfl⟩) hK hP hD hS hZ hX52 rfl hl.1 rfl (Nat.le_of_ble_eq_true rfl) dXL_law_422 hroom (fun k z hk H locs hP hD hS => ?_)
  refine lv_istore (lv' := [(5, .int k), (0, .ref b), (1, .ref h0), (2, .ref k0), (3, .ref qo), (4, .int x4)]) hx hb dXL_law_425 hl (by decide) rfl (fun ls hl => ?_)
  refine lv_aload_n hx hb dXL_law_427 rfl (lv_at hl 3 rfl) ?_
  refine lv_aload_n hx hb dXL_law_428 rfl (lv_at hl 1 rfl) ?_
  refine lv_iload hx hb dXL_law_429 (lv_at hl 5 rfl) ?_
  refine lv_iconst (v := 1) hx hb dXL_law_431 (by decide) ?_
  refine lv_iadd hx hb dXL_law_432 ?_
  refine va_sld hx hb hX hbl hbA hS h_1 dXL_law_433 ?_
  refine lv_aload_n hx hb dXL_law_434 rfl (lv_at hl 1 rfl) ?_
  refine lv_iload hx hb dXL_law_435 (lv_at hl 5 rfl) ?_
  refine lv_iconst (v := 2) hx hb dXL_law_437 (by decide) ?_
  refine lv_iadd hx hb dXL_law_438 ?_
  refine va_sld hx hb hX hbl hbA hS h_2 dXL_law_439 ?_
  refine lRV (As := [.int (xs (x4 + 1).toNatClampNeg), .int (xs (x4 + 2).toNatClampNeg)]) (rest := []) ⟨hx, hb, hml, hown, htg⟩ (cr_setRegister l dC dI cI k0 km kr tN tB H.size v (xs (x4 + 1).toNatClampNeg) (xs (x4 + 2).toNatClampNeg)) (cwV 2 htg (gV mL_L_81 mI_1_setRegister mX_1_setRegister mN_1 mB_1_setRegister) rfl rfl rfl (by decide +kernel) ⟨Nat.le_of_ble_eq_true rfl, Nat.le_of_ble_eq_true rfl⟩) hK hP hD hS rfl hl.1 rfl (Nat.le_of_ble_eq_true rfl) dXL_law_440 hroom (fun r hr9 H locs hP hD hS => ?_)
  obtain ⟨t1, t2, t4⟩ := post_V (r := r) hk (by rw [hr9]; exact P_setRegister v (xs (x4 + 1).toNatClampNeg) (xs (x4 + 2).toNatClampNeg) hi)
  refine lv_aload_n hx hb dXL_law_443 rfl (lv_at hl 3 rfl) ?_
  refine lRR (As := []) (rest := []) ⟨hx, hb, hml, hown, htg⟩ (cr_thrown l dC dI cI k0 km kr tN tB H.size r) (cwV 0 htg (gV mL_L_56 mI_1_thrown mX_1_thrown mN_1 mB_1_thrown) rfl rfl rfl (by decide +kernel) ⟨Nat.le_of_ble_eq_true rfl, Nat.le_of_ble_eq_true rfl⟩) hK hP hD rfl hl.1 rfl (Nat.le_of_ble_eq_true rfl) dXL_law_444 hroom ?_
  refine lv_iload hx hb dXL_law_447 (lv_at hl 0 rfl) ?_
  refine lv_icmp_eq (tgt := 454) hx hb dXL_law_449 (by decide) (fun _ => ?_) (fun ne => absurd t1 ne)
  refine lv_goto (tgt := 629) hx hb dXL_law_454 (by decide) ?_
  exact next _ _ _ _ _ t2 t4 hP hD hS ls (lv_sub hl [1, 2, 3, 4, 5] rfl)
set_option maxHeartbeats 4000000 in
set_option maxRecDepth 100000 in
theorem lc_control {p : Program} {l : Launch} {e : Env} {s : State} {m : MethodId} {below : List Frame} {meth : Method} {c : Code} {dC : Nat → ClassId} {dI : Nat → Nat → Nat} {b L : Nat} {xs : Nat → Int32} {cI cL h0 qme0 qre1 qco2 k0 km kr qo tN tB sa33 sa47 sa50 sa52 sa60 sa66 : Nat} (hnt : l.stackTraces = false) (hL : L ≤ 3072) (C0 : lw_At p s m meth c b L xs) (hK : va_K (dC, dI) vwCl [(cI, .int), (cL, .long)] s) (hZ : gZ tN tB (zA s.heap.size) s s.heap) (hX33 : gX "java/lang/IllegalArgumentException" "steps are 0 to 20000" 33 sa33 (zA s.heap.size) s s.heap) (hX47 : gX "java/lang/IndexOutOfBoundsException" "no word of the memory" 47 sa47 (zA s.heap.size) s s.heap) (hX50 : gX "java/lang/IndexOutOfBoundsException" "not four words of the memory" 50 sa50 (zA s.heap.size) s s.heap) (hX52 : gX "java/lang/IndexOutOfBoundsException" "registers are 0 to 33" 52 sa52 (zA s.heap.size) s s.heap) (hX60 : gX "java/util/NoSuchElementException" "no control of that number" 60 sa60 (zA s.heap.size) s s.heap) (hX66 : gX "java/lang/IllegalArgumentException" "how is 0, 1 or 2" 66 sa66 (zA s.heap.size) s s.heap) {j : Nat} {x4 : Int32} (hj : 6 * j + 6 ≤ L) (ex4 : x4 = nI (6 * j)) (next : ∀ (u : HS) (v : RS) (o : Nat → Int64) (H : Heap) (locs : List Loc), u = phi v → Inv (setTH v 0) → va_P (dC, dI) vwCl (lW cI cL h0 qme0 qre1 qco2 k0 km kr qo u v o) H → va_D (zA s.heap.size) (lW cI cL h0 qme0 qre1 qco2 k0 km kr qo u v o) → va_S (zA s.heap.size) s.heap H locs → ∀ (ls : Array Slot), lv_has ls 7 [(0, .ref b), (1, .ref h0), (2, .ref k0), (3, .ref qo), (4, .int x4)] → W p l e room_1 s m #[Value.ref b] below meth c H locs (8 + j + 1) (131170 + 6 * j + 6) (lw_Z below #[Value.ref b] s) (F0 m 629 ls [])) {u : HS} {v : RS} {o : Nat → Int64} {H : Heap} {locs : List Loc} (hu : u = phi v) (hi : Inv (setTH v 0)) (hP : va_P (dC, dI) vwCl (lW cI cL h0 qme0 qre1 qco2 k0 km kr qo u v o) H) (hD : va_D (zA s.heap.size) (lW cI cL h0 qme0 qre1 qco2 k0 km kr qo u v o)) (hS : va_S (zA s.heap.size) s.heap H locs) (ls : Array Slot) (hl : lv_has ls 7 [(0, .ref b), (1, .ref h0), (2, .ref k0), (3, .ref qo), (4, .int x4)]) : W p l e room_1 s m #[Value.ref b] below meth c H locs (8 + j) (131170 + 6 * j) (lw_Z below #[Value.ref b] s) (F0 m 457 ls []) := by
  obtain ⟨hx, hb, hr, hml, hown, hts, hX, hbl, hlocks, hgv⟩ := C0
  have htg : ∀ w ∈ gBIG, w.before #[Value.ref b] s = true := fun w h => hts w (gBIG_in w h)
  have hbA : ¬ (zA s.heap.size) b := Nat.not_le.mpr hbl
  have hroom : 8 + j + 1 ≤ room_1.cells ∧ 131170 + 6 * j + 6 ≤ room_1.slots := ⟨by show _ ≤ 601024; omega, by show _ ≤ 7293034; omega⟩
  have hroom0 : 8 + j ≤ room_1.cells ∧ 131170 + 6 * j ≤ room_1.slots := ⟨by show _ ≤ 601024; omega, by show _ ≤ 7293034; omega⟩
  have h_1 : vp_in (x4 + 1) L := by rw [ex4, show (1 : Int32) = nI 1 from rfl, nI_add']; exact vp_in_nI (by omega) (by omega)
  have h_2 : vp_in (x4 + 2) L := by rw [ex4, show (2 : Int32) = nI 2 from rfl, nI_add']; exact vp_in_nI (by omega) (by omega)
  have h_3 : vp_in (x4 + 3) L := by rw [ex4, show (3 : Int32) = nI 3 from rfl, nI_add']; exact vp_in_nI (by omega) (by omega)
  have h_4 : vp_in (x4 + 4) L := by rw [ex4, show (4 : Int32) = nI 4 from rfl, nI_add']; exact vp_in_nI (by omega) (by omega)
  have h_5 : vp_in (x4 + 5) L := by rw [ex4, show (5 : Int32) = nI 5 from rfl, nI_add']; exact vp_in_nI (by omega) (by omega)
  subst hu
  refine lv_aload_n hx hb dXL_law_457 rfl (lv_at hl 1 rfl) ?_
  refine lv_aload_n hx hb dXL_law_458 rfl (lv_at hl 0 rfl) ?_
  refine lv_iload hx hb dXL_law_459 (lv_at hl 4 rfl) ?_
  refine lv_iconst (v := 1) hx hb dXL_law_461 (by decide) ?_
  refine lv_iadd hx hb dXL_law_462 ?_
  refine va_sld hx hb hX hbl hbA hS h_1 dXL_law_463 ?_
  refine lv_aload_n hx hb dXL_law_464 rfl (lv_at hl 3 rfl) ?_
  refine lKI (As := [.ref h0, .int (xs (x4 + 1).toNatClampNeg), .ref qo]) (rest := []) ⟨hx, hb, hml, hown, htg⟩ (ck_control l dC dI cI cL h0 qme0 qre1 qco2 qo tN tB hnt sa60 H.size (phi v) o (xs (x4 + 1).toNatClampNeg)) (vx_cwSW 3 htg (gSW mL_L_82 mS_L_control mN_L mB_L_control) rfl rfl rfl (by decide +kernel) ⟨Nat.le_of_ble_eq_true rfl, Nat.le_of_ble_eq_true rfl⟩) hK hP hD hS hZ hX60 rfl hl.1 rfl (Nat.le_of_ble_eq_true rfl) dXL_law_465 hroom (fun k z hk H locs hP hD hS => ?_)
  refine lv_istore (lv' := [(5, .int k), (0, .ref b), (1, .ref h0), (2, .ref k0), (3, .ref qo), (4, .int x4)]) hx hb dXL_law_468 hl (by decide) rfl (fun ls hl => ?_)
  refine lv_aload_n hx hb dXL_law_470 rfl (lv_at hl 3 rfl) ?_
  refine lv_aload_n hx hb dXL_law_471 rfl (lv_at hl 1 rfl) ?_
  refine lv_iload hx hb dXL_law_472 (lv_at hl 5 rfl) ?_
  refine lv_iconst (v := 1) hx hb dXL_law_474 (by decide) ?_
  refine lv_iadd hx hb dXL_law_475 ?_
  refine va_sld hx hb hX hbl hbA hS h_1 dXL_law_476 ?_
  refine lRI (As := [.int (xs (x4 + 1).toNatClampNeg)]) (rest := []) ⟨hx, hb, hml, hown, htg⟩ (cr_control l dC dI cI k0 km kr tN tB H.size v (xs (x4 + 1).toNatClampNeg)) (cwV 1 htg (gV mL_L_84 mI_1_control mX_1_control mN_1 mB_1_control) rfl rfl rfl (by decide +kernel) ⟨Nat.le_of_ble_eq_true rfl, Nat.le_of_ble_eq_true rfl⟩) hK hP hD hS rfl hl.1 rfl (Nat.le_of_ble_eq_true rfl) dXL_law_477 hroom (fun r hr9 H locs hP hD hS => ?_)
  obtain ⟨t1, t2, t3, t4⟩ := post_I (r := r) hk (by rw [hr9]; exact P_control v (xs (x4 + 1).toNatClampNeg) hi)
  refine lv_istore (lv' := [(6, .int r.1), (5, .int k), (0, .ref b), (1, .ref h0), (2, .ref k0), (3, .ref qo), (4, .int x4)]) hx hb dXL_law_480 hl (by decide) rfl (fun ls hl => ?_)
  refine lv_aload_n hx hb dXL_law_482 rfl (lv_at hl 4 rfl) ?_
  refine lRR (As := []) (rest := []) ⟨hx, hb, hml, hown, htg⟩ (cr_thrown l dC dI cI k0 km kr tN tB H.size r.2) (cwV 0 htg (gV mL_L_56 mI_1_thrown mX_1_thrown mN_1 mB_1_thrown) rfl rfl rfl (by decide +kernel) ⟨Nat.le_of_ble_eq_true rfl, Nat.le_of_ble_eq_true rfl⟩) hK hP hD rfl hl.1 rfl (Nat.le_of_ble_eq_true rfl) dXL_law_483 hroom ?_
  refine lv_iload hx hb dXL_law_486 (lv_at hl 1 rfl) ?_
  refine lv_icmp_eq (tgt := 493) hx hb dXL_law_488 (by decide) (fun _ => ?_) (fun ne => absurd t1 ne)
  refine lv_iload hx hb dXL_law_493 (lv_at hl 1 rfl) ?_
  refine lv_if_ne (tgt := 510) hx hb dXL_law_495 (by decide) (fun _ => ?_) (fun ke => ?_)
  · refine lv_goto (tgt := 629) hx hb dXL_law_510 (by decide) ?_
    exact next _ _ _ _ _ t2 t4 hP hD hS ls (lv_sub hl [2, 3, 4, 5, 6] rfl)
  · refine lv_aload_n hx hb dXL_law_498 rfl (lv_at hl 5 rfl) ?_
    refine lv_iconst (v := 0) hx hb dXL_law_499 (by decide) ?_
    refine va_lald (D := (dC, dI)) hx hb hK hP 7 1 rfl rfl (jin (by decide)) dXL_law_500 ?_
    refine lv_iload hx hb dXL_law_501 (lv_at hl 0 rfl) ?_
    refine lv_i2l hx hb dXL_law_503 rfl ?_
    refine W.lcmp hx hb dXL_law_504 ?_
    rw [t3 ke, lg_self]
    refine lv_if_eq (tgt := 510) hx hb dXL_law_505 (by decide) (fun _ => ?_) (fun ne => absurd rfl ne)
    refine lv_goto (tgt := 629) hx hb dXL_law_510 (by decide) ?_
    exact next _ _ _ _ _ t2 t4 hP hD hS ls (lv_sub hl [2, 3, 4, 5, 6] rfl)
set_option maxHeartbeats 4000000 in
set_option maxRecDepth 100000 in
theorem lc_setControl {p : Program} {l : Launch} {e : Env} {s : State} {m : MethodId} {below : List Frame} {meth : Method} {c : Code} {dC : Nat → ClassId} {dI : Nat → Nat → Nat} {b L : Nat} {xs : Nat → Int32} {cI cL h0 qme0 qre1 qco2 k0 km kr qo tN tB sa33 sa47 sa50 sa52 sa60 sa66 : Nat} (hnt : l.stackTraces = false) (hL : L ≤ 3072) (C0 : lw_At p s m meth c b L xs) (hK : va_K (dC, dI) vwCl [(cI, .int), (cL, .long)] s) (hZ : gZ tN tB (zA s.heap.size) s s.heap) (hX33 : gX "java/lang/IllegalArgumentException" "steps are 0 to 20000" 33 sa33 (zA s.heap.size) s s.heap) (hX47 : gX "java/lang/IndexOutOfBoundsException" "no word of the memory" 47 sa47 (zA s.heap.size) s s.heap) (hX50 : gX "java/lang/IndexOutOfBoundsException" "not four words of the memory" 50 sa50 (zA s.heap.size) s s.heap) (hX52 : gX "java/lang/IndexOutOfBoundsException" "registers are 0 to 33" 52 sa52 (zA s.heap.size) s s.heap) (hX60 : gX "java/util/NoSuchElementException" "no control of that number" 60 sa60 (zA s.heap.size) s s.heap) (hX66 : gX "java/lang/IllegalArgumentException" "how is 0, 1 or 2" 66 sa66 (zA s.heap.size) s s.heap) {j : Nat} {x4 : Int32} (hj : 6 * j + 6 ≤ L) (ex4 : x4 = nI (6 * j)) (next : ∀ (u : HS) (v : RS) (o : Nat → Int64) (H : Heap) (locs : List Loc), u = phi v → Inv (setTH v 0) → va_P (dC, dI) vwCl (lW cI cL h0 qme0 qre1 qco2 k0 km kr qo u v o) H → va_D (zA s.heap.size) (lW cI cL h0 qme0 qre1 qco2 k0 km kr qo u v o) → va_S (zA s.heap.size) s.heap H locs → ∀ (ls : Array Slot), lv_has ls 7 [(0, .ref b), (1, .ref h0), (2, .ref k0), (3, .ref qo), (4, .int x4)] → W p l e room_1 s m #[Value.ref b] below meth c H locs (8 + j + 1) (131170 + 6 * j + 6) (lw_Z below #[Value.ref b] s) (F0 m 629 ls [])) {u : HS} {v : RS} {o : Nat → Int64} {H : Heap} {locs : List Loc} (hu : u = phi v) (hi : Inv (setTH v 0)) (hP : va_P (dC, dI) vwCl (lW cI cL h0 qme0 qre1 qco2 k0 km kr qo u v o) H) (hD : va_D (zA s.heap.size) (lW cI cL h0 qme0 qre1 qco2 k0 km kr qo u v o)) (hS : va_S (zA s.heap.size) s.heap H locs) (ls : Array Slot) (hl : lv_has ls 7 [(0, .ref b), (1, .ref h0), (2, .ref k0), (3, .ref qo), (4, .int x4)]) : W p l e room_1 s m #[Value.ref b] below meth c H locs (8 + j) (131170 + 6 * j) (lw_Z below #[Value.ref b] s) (F0 m 513 ls []) := by
  obtain ⟨hx, hb, hr, hml, hown, hts, hX, hbl, hlocks, hgv⟩ := C0
  have htg : ∀ w ∈ gBIG, w.before #[Value.ref b] s = true := fun w h => hts w (gBIG_in w h)
  have hbA : ¬ (zA s.heap.size) b := Nat.not_le.mpr hbl
  have hroom : 8 + j + 1 ≤ room_1.cells ∧ 131170 + 6 * j + 6 ≤ room_1.slots := ⟨by show _ ≤ 601024; omega, by show _ ≤ 7293034; omega⟩
  have hroom0 : 8 + j ≤ room_1.cells ∧ 131170 + 6 * j ≤ room_1.slots := ⟨by show _ ≤ 601024; omega, by show _ ≤ 7293034; omega⟩
  have h_1 : vp_in (x4 + 1) L := by rw [ex4, show (1 : Int32) = nI 1 from rfl, nI_add']; exact vp_in_nI (by omega) (by omega)
  have h_2 : vp_in (x4 + 2) L := by rw [ex4, show (2 : Int32) = nI 2 from rfl, nI_add']; exact vp_in_nI (by omega) (by omega)
  have h_3 : vp_in (x4 + 3) L := by rw [ex4, show (3 : Int32) = nI 3 from rfl, nI_add']; exact vp_in_nI (by omega) (by omega)
  have h_4 : vp_in (x4 + 4) L := by rw [ex4, show (4 : Int32) = nI 4 from rfl, nI_add']; exact vp_in_nI (by omega) (by omega)
  have h_5 : vp_in (x4 + 5) L := by rw [ex4, show (5 : Int32) = nI 5 from rfl, nI_add']; exact vp_in_nI (by omega) (by omega)
  subst hu
  refine lv_aload_n hx hb dXL_law_513 rfl (lv_at hl 1 rfl) ?_
  refine lv_aload_n hx hb dXL_law_514 rfl (lv_at hl 0 rfl) ?_
  refine lv_iload hx hb dXL_law_515 (lv_at hl 4 rfl) ?_
  refine lv_iconst (v := 1) hx hb dXL_law_517 (by decide) ?_
  refine lv_iadd hx hb dXL_law_518 ?_
  refine va_sld hx hb hX hbl hbA hS h_1 dXL_law_519 ?_
  refine lv_aload_n hx hb dXL_law_520 rfl (lv_at hl 0 rfl) ?_
  refine lv_iload hx hb dXL_law_521 (lv_at hl 4 rfl) ?_
  refine lv_iconst (v := 2) hx hb dXL_law_523 (by decide) ?_
  refine lv_iadd hx hb dXL_law_524 ?_
  refine va_sld hx hb hX hbl hbA hS h_2 dXL_law_525 ?_
  refine lKV (As := [.ref h0, .int (xs (x4 + 1).toNatClampNeg), .int (xs (x4 + 2).toNatClampNeg)]) (rest := []) ⟨hx, hb, hml, hown, htg⟩ (ck_setControl l dC dI cI h0 qme0 qre1 qco2 tN tB hnt sa60 H.size (phi v) (xs (x4 + 1).toNatClampNeg) (xs (x4 + 2).toNatClampNeg)) (vx_cwSW 3 htg (gSW mL_L_85 mS_L_setControl mN_L mB_L_setControl) rfl rfl rfl (by decide +kernel) ⟨Nat.le_of_ble_eq_true rfl, Nat.le_of_ble_eq_true rfl⟩) hK hP hD hS hZ hX60 rfl hl.1 rfl (Nat.le_of_ble_eq_true rfl) dXL_law_526 hroom (fun k z hk H locs hP hD hS => ?_)
  refine lv_istore (lv' := [(5, .int k), (0, .ref b), (1, .ref h0), (2, .ref k0), (3, .ref qo), (4, .int x4)]) hx hb dXL_law_529 hl (by decide) rfl (fun ls hl => ?_)
  refine lv_aload_n hx hb dXL_law_531 rfl (lv_at hl 3 rfl) ?_
  refine lv_aload_n hx hb dXL_law_532 rfl (lv_at hl 1 rfl) ?_
  refine lv_iload hx hb dXL_law_533 (lv_at hl 5 rfl) ?_
  refine lv_iconst (v := 1) hx hb dXL_law_535 (by decide) ?_
  refine lv_iadd hx hb dXL_law_536 ?_
  refine va_sld hx hb hX hbl hbA hS h_1 dXL_law_537 ?_
  refine lv_aload_n hx hb dXL_law_538 rfl (lv_at hl 1 rfl) ?_
  refine lv_iload hx hb dXL_law_539 (lv_at hl 5 rfl) ?_
  refine lv_iconst (v := 2) hx hb dXL_law_541 (by decide) ?_
  refine lv_iadd hx hb dXL_law_542 ?_
  refine va_sld hx hb hX hbl hbA hS h_2 dXL_law_543 ?_
  refine lRV (As := [.int (xs (x4 + 1).toNatClampNeg), .int (xs (x4 + 2).toNatClampNeg)]) (rest := []) ⟨hx, hb, hml, hown, htg⟩ (cr_setControl l dC dI cI k0 km kr tN tB H.size v (xs (x4 + 1).toNatClampNeg) (xs (x4 + 2).toNatClampNeg)) (cwV 2 htg (gV mL_L_87 mI_1_setControl mX_1_setControl mN_1 mB_1_setControl) rfl rfl rfl (by decide +kernel) ⟨Nat.le_of_ble_eq_true rfl, Nat.le_of_ble_eq_true rfl⟩) hK hP hD hS rfl hl.1 rfl (Nat.le_of_ble_eq_true rfl) dXL_law_544 hroom (fun r hr9 H locs hP hD hS => ?_)
  obtain ⟨t1, t2, t4⟩ := post_V (r := r) hk (by rw [hr9]; exact P_setControl v (xs (x4 + 1).toNatClampNeg) (xs (x4 + 2).toNatClampNeg) hi)
  refine lv_aload_n hx hb dXL_law_547 rfl (lv_at hl 3 rfl) ?_
  refine lRR (As := []) (rest := []) ⟨hx, hb, hml, hown, htg⟩ (cr_thrown l dC dI cI k0 km kr tN tB H.size r) (cwV 0 htg (gV mL_L_56 mI_1_thrown mX_1_thrown mN_1 mB_1_thrown) rfl rfl rfl (by decide +kernel) ⟨Nat.le_of_ble_eq_true rfl, Nat.le_of_ble_eq_true rfl⟩) hK hP hD rfl hl.1 rfl (Nat.le_of_ble_eq_true rfl) dXL_law_548 hroom ?_
  refine lv_iload hx hb dXL_law_551 (lv_at hl 0 rfl) ?_
  refine lv_icmp_eq (tgt := 558) hx hb dXL_law_553 (by decide) (fun _ => ?_) (fun ne => absurd t1 ne)
  refine lv_goto (tgt := 629) hx hb dXL_law_558 (by decide) ?_
  exact next _ _ _ _ _ t2 t4 hP hD hS ls (lv_sub hl [1, 2, 3, 4, 5] rfl)
set_option maxHeartbeats 4000000 in
set_option maxRecDepth 100000 in
theorem lc_translate {p : Program} {l : Launch} {e : Env} {s : State} {m : MethodId} {below : List Frame} {meth : Method} {c : Code} {dC : Nat → ClassId} {dI : Nat → Nat → Nat} {b L : Nat} {xs : Nat → Int32} {cI cL h0 qme0 qre1 qco2 k0 km kr qo tN tB sa33 sa47 sa50 sa52 sa60 sa66 : Nat} (hnt : l.stackTraces = false) (hL : L ≤ 3072) (C0 : lw_At p s m meth c b L xs) (hK : va_K (dC, dI) vwCl [(cI, .int), (cL, .long)] s) (hZ : gZ tN tB (zA s.heap.size) s s.heap) (hX33 : gX "java/lang/IllegalArgumentException" "steps are 0 to 20000" 33 sa33 (zA s.heap.size) s s.heap) (hX47 : gX "java/lang/IndexOutOfBoundsException" "no word of the memory" 47 sa47 (zA s.heap.size) s s.heap) (hX50 : gX "java/lang/IndexOutOfBoundsException" "not four words of the memory" 50 sa50 (zA s.heap.size) s s.heap) (hX52 : gX "java/lang/IndexOutOfBoundsException" "registers are 0 to 33" 52 sa52 (zA s.heap.size) s s.heap) (hX60 : gX "java/util/NoSuchElementException" "no control of that number" 60 sa60 (zA s.heap.size) s s.heap) (hX66 : gX "java/lang/IllegalArgumentException" "how is 0, 1 or 2" 66 sa66 (zA s.heap.size) s s.heap) {j : Nat} {x4 : Int32} (hj : 6 * j + 6 ≤ L) (ex4 : x4 = nI (6 * j)) (next : ∀ (u : HS) (v : RS) (o : Nat → Int64) (H : Heap) (locs : List Loc), u = phi v → Inv (setTH v 0) → va_P (dC, dI) vwCl (lW cI cL h0 qme0 qre1 qco2 k0 km kr qo u v o) H → va_D (zA s.heap.size) (lW cI cL h0 qme0 qre1 qco2 k0 km kr qo u v o) → va_S (zA s.heap.size) s.heap H locs → ∀ (ls : Array Slot), lv_has ls 7 [(0, .ref b), (1, .ref h0), (2, .ref k0), (3, .ref qo), (4, .int x4)] → W p l e room_1 s m #[Value.ref b] below meth c H locs (8 + j + 1) (131170 + 6 * j + 6) (lw_Z below #[Value.ref b] s) (F0 m 629 ls [])) {u : HS} {v : RS} {o : Nat → Int64} {H : Heap} {locs : List Loc} (hu : u = phi v) (hi : Inv (setTH v 0)) (hP : va_P (dC, dI) vwCl (lW cI cL h0 qme0 qre1 qco2 k0 km kr qo u v o) H) (hD : va_D (zA s.heap.size) (lW cI cL h0 qme0 qre1 qco2 k0 km kr qo u v o)) (hS : va_S (zA s.heap.size) s.heap H locs) (ls : Array Slot) (hl : lv_has ls 7 [(0, .ref b), (1, .ref h0), (2, .ref k0), (3, .ref qo), (4, .int x4)]) : W p l e room_1 s m #[Value.ref b] below meth c H locs (8 + j) (131170 + 6 * j) (lw_Z below #[Value.ref b] s) (F0 m 561 ls []) := by
  obtain ⟨hx, hb, hr, hml, hown, hts, hX, hbl, hlocks, hgv⟩ := C0
  have htg : ∀ w ∈ gBIG, w.before #[Value.ref b] s = true := fun w h => hts w (gBIG_in w h)
  have hbA : ¬ (zA s.heap.size) b := Nat.not_le.mpr hbl
  have hroom : 8 + j + 1 ≤ room_1.cells ∧ 131170 + 6 * j + 6 ≤ room_1.slots := ⟨by show _ ≤ 601024; omega, by show _ ≤ 7293034; omega⟩
  have hroom0 : 8 + j ≤ room_1.cells ∧ 131170 + 6 * j ≤ room_1.slots := ⟨by show _ ≤ 601024; omega, by show _ ≤ 7293034; omega⟩
  have h_1 : vp_in (x4 + 1) L := by rw [ex4, show (1 : Int32) = nI 1 from rfl, nI_add']; exact vp_in_nI (by omega) (by omega)
  have h_2 : vp_in (x4 + 2) L := by rw [ex4, show (2 : Int32) = nI 2 from rfl, nI_add']; exact vp_in_nI (by omega) (by omega)
  have h_3 : vp_in (x4 + 3) L := by rw [ex4, show (3 : Int32) = nI 3 from rfl, nI_add']; exact vp_in_nI (by omega) (by omega)
  have h_4 : vp_in (x4 + 4) L := by rw [ex4, show (4 : Int32) = nI 4 from rfl, nI_add']; exact vp_in_nI (by omega) (by omega)
  have h_5 : vp_in (x4 + 5) L := by rw [ex4, show (5 : Int32) = nI 5 from rfl, nI_add']; exact vp_in_nI (by omega) (by omega)
  subst hu
  refine lv_aload_n hx hb dXL_law_561 rfl (lv_at hl 1 rfl) ?_
  refine lv_aload_n hx hb dXL_law_562 rfl (lv_at hl 0 rfl) ?_
  refine lv_iload hx hb dXL_law_563 (lv_at hl 4 rfl) ?_
  refine lv_iconst (v := 1) hx hb dXL_law_565 (by decide) ?_
  refine lv_iadd hx hb dXL_law_566 ?_
  refine va_sld hx hb hX hbl hbA hS h_1 dXL_law_567 ?_
  refine lv_aload_n hx hb dXL_law_568 rfl (lv_at hl 0 rfl) ?_
  refine lv_iload hx hb dXL_law_569 (lv_at hl 4 rfl) ?_
  refine lv_iconst (v := 2) hx hb dXL_law_571 (by decide) ?_
  refine lv_iadd hx hb dXL_law_572 ?_
  refine va_sld hx hb hX hbl hbA hS h_2 dXL_law_573 ?_
  refine lv_aload_n hx hb dXL_law_574 rfl (lv_at hl 3 rfl) ?_
  refine lKI (As := [.ref h0, .int (xs (x4 + 1).toNatClampNeg), .int (xs (x4 + 2).toNatClampNeg), .ref qo]) (rest := []) ⟨hx, hb, hml, hown, htg⟩ (ck_translate l dC dI cI cL h0 qme0 qre1 qco2 qo tN tB hnt sa66 H.size (phi v) o (xs (x4 + 1).toNatClampNeg) (xs (x4 + 2).toNatClampNeg)) (vx_cwSW 4 htg (gSW mL_L_88 mS_L_translate mN_L mB_L_translate) rfl rfl rfl (by decide +kernel) ⟨Nat.le_of_ble_eq_true rfl, Nat.le_of_ble_eq_true rfl⟩) hK hP hD hS hZ hX66 rfl hl.1 rfl (Nat.le_of_ble_eq_true rfl) dXL_law_575 hroom (fun k z hk H locs hP hD hS => ?_)
  refine lv_istore (lv' := [(5, .int k), (0, .ref b), (1, .ref h0), (2, .ref k0), (3, .ref qo), (4, .int x4)]) hx hb dXL_law_578 hl (by decide) rfl (fun ls hl => ?_)
  refine lv_aload_n hx hb dXL_law_580 rfl (lv_at hl 3 rfl) ?_
  refine lv_aload_n hx hb dXL_law_581 rfl (lv_at hl 1 rfl) ?_
  refine lv_iload hx hb dXL_law_582 (lv_at hl 5 rfl) ?_
  refine lv_iconst (v := 1) hx hb dXL_law_584 (by decide) ?_
  refine lv_iadd hx hb dXL_law_585 ?_
  refine va_sld hx hb hX hbl hbA hS h_1 dXL_law_586 ?_
  refine lv_aload_n hx hb dXL_law_587 rfl (lv_at hl 1 rfl) ?_
  refine lv_iload hx hb dXL_law_588 (lv_at hl 5 rfl) ?_
  refine lv_iconst (v := 2) hx hb dXL_law_590 (by decide) ?_
  refine lv_iadd hx hb dXL_law_591 ?_
  refine va_sld hx hb hX hbl hbA hS h_2 dXL_law_592 ?_
  refine lRI (As := [.int (xs (x4 + 1).toNatClampNeg), .int (xs (x4 + 2).toNatClampNeg)]) (rest := []) ⟨hx, hb, hml, hown, htg⟩ (cr_translate l dC dI cI k0 km kr tN tB H.size v (xs (x4 + 1).toNatClampNeg) (xs (x4 + 2).toNatClampNeg)) (cwV 2 htg (gV mL_L_91 mI_1_translate mX_1_translate mN_1 mB_1_translate) rfl rfl rfl (by decide +kernel) ⟨Nat.le_of_ble_eq_true rfl, Nat.le_of_ble_eq_true rfl⟩) hK hP hD hS rfl hl.1 rfl (Nat.le_of_ble_eq_true rfl) dXL_law_593 hroom (fun r hr9 H locs hP hD hS => ?_)
  obtain ⟨t1, t2, t3, t4⟩ := post_I (r := r) hk (by rw [hr9]; exact P_translate v (xs (x4 + 1).toNatClampNeg) (xs (x4 + 2).toNatClampNeg) hi)
  refine lv_istore (lv' := [(6, .int r.1), (5, .int k), (0, .ref b), (1, .ref h0), (2, .ref k0), (3, .ref qo), (4, .int x4)]) hx hb dXL_law_596 hl (by decide) rfl (fun ls hl => ?_)
  refine lv_aload_n hx hb dXL_law_598 rfl (lv_at hl 4 rfl) ?_
  refine lRR (As := []) (rest := []) ⟨hx, hb, hml, hown, htg⟩ (cr_thrown l dC dI cI k0 km kr tN tB H.size r.2) (cwV 0 htg (gV mL_L_56 mI_1_thrown mX_1_thrown mN_1 mB_1_thrown) rfl rfl rfl (by decide +kernel) ⟨Nat.le_of_ble_eq_true rfl, Nat.le_of_ble_eq_true rfl⟩) hK hP hD rfl hl.1 rfl (Nat.le_of_ble_eq_true rfl) dXL_law_599 hroom ?_
  refine lv_iload hx hb dXL_law_602 (lv_at hl 1 rfl) ?_
  refine lv_icmp_eq (tgt := 609) hx hb dXL_law_604 (by decide) (fun _ => ?_) (fun ne => absurd t1 ne)
  refine lv_iload hx hb dXL_law_609 (lv_at hl 1 rfl) ?_
  refine lv_if_ne (tgt := 626) hx hb dXL_law_611 (by decide) (fun _ => ?_) (fun ke => ?_)
  · refine lv_goto (tgt := 629) hx hb dXL_law_626 (by decide) ?_
    exact next _ _ _ _ _ t2 t4 hP hD hS ls (lv_sub hl [2, 3, 4, 5, 6] rfl)
  · refine lv_aload_n hx hb dXL_law_614 rfl (lv_at hl 5 rfl) ?_
    refine lv_iconst (v := 0) hx hb dXL_law_615 (by decide) ?_
    refine va_lald (D := (dC, dI)) hx hb hK hP 7 1 rfl rfl (jin (by decide)) dXL_law_616 ?_
    refine lv_iload hx hb dXL_law_617 (lv_at hl 0 rfl) ?_
    refine lv_i2l hx hb dXL_law_619 rfl ?_
    refine W.lcmp hx hb dXL_law_620 ?_
    rw [t3 ke, lg_self]
    refine lv_if_eq (tgt := 626) hx hb dXL_law_621 (by decide) (fun _ => ?_) (fun ne => absurd rfl ne)
    refine lv_goto (tgt := 629) hx hb dXL_law_626 (by decide) ?_
    exact next _ _ _ _ _ t2 t4 hP hD hS ls (lv_sub hl [2, 3, 4, 5, 6] rfl)
