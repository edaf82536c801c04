set_option maxHeartbeats 4000000 in
set_option maxRecDepth 100000 in
theorem law_loop {p : Program} {l : Launch} {e : Env} {s : State} {m : MethodId} {below : List Frame} {meth : Method} {c : Code} {dC : Nat → ClassId} {dI : Nat → Nat → Nat} {b L : Nat} {xs : Nat → Int32} {cI cL h0 qme0 qre1 qco2 k0 km kr qo tN tB sa33 sa47 sa50 sa52 sa60 sa66 : Nat} (hnt : l.stackTraces = false) (hL : L ≤ 3072) (C0 : lw_At p s m meth c b L xs) (hK : va_K (dC, dI) vwCl [(cI, .int), (cL, .long)] s) (hZ : gZ tN tB (zA s.heap.size) s s.heap) (hX33 : gX "java/lang/IllegalArgumentException" "steps are 0 to 20000" 33 sa33 (zA s.heap.size) s s.heap) (hX47 : gX "java/lang/IndexOutOfBoundsException" "no word of the memory" 47 sa47 (zA s.heap.size) s s.heap) (hX50 : gX "java/lang/IndexOutOfBoundsException" "not four words of the memory" 50 sa50 (zA s.heap.size) s s.heap) (hX52 : gX "java/lang/IndexOutOfBoundsException" "registers are 0 to 33" 52 sa52 (zA s.heap.size) s s.heap) (hX60 : gX "java/util/NoSuchElementException" "no control of that number" 60 sa60 (zA s.heap.size) s s.heap) (hX66 : gX "java/lang/IllegalArgumentException" "how is 0, 1 or 2" 66 sa66 (zA s.heap.size) s s.heap) : ∀ (n j : Nat) (x4 : Int32), 6 * j ≤ L → L < 6 * (j + n) → x4 = nI (6 * j) → ∀ (u : HS) (v : RS) (o : Nat → Int64) (H : Heap) (locs : List Loc), u = phi v → Inv (setTH v 0) → va_P (dC, dI) vwCl (lW cI cL h0 qme0 qre1 qco2 k0 km kr qo u v o) H → va_D (zA s.heap.size) (lW cI cL h0 qme0 qre1 qco2 k0 km kr qo u v o) → va_S (zA s.heap.size) s.heap H locs → ∀ (ls : Array Slot), lv_has ls 7 [(0, .ref b), (1, .ref h0), (2, .ref k0), (3, .ref qo), (4, .int x4)] → W p l e room_1 s m #[Value.ref b] below meth c H locs (8 + j) (131170 + 6 * j) (lw_Z below #[Value.ref b] s) (F0 m 23 ls []) := by
  obtain ⟨hx, hb, hr, hml, hown, hts, hX, hbl, hlocks, hgv⟩ := id C0
  have hbA : ¬ (zA s.heap.size) b := Nat.not_le.mpr hbl
  intro n
  induction n with
  | zero =>
    intro j x4 h1 h2
    exact absurd h2 (by omega)
  | succ n ih =>
    intro j x4 hj hn ex4 u v o H locs hu hi hP hD hS ls hl
    refine lv_iload hx hb dXL_law_23 (lv_at hl 4 rfl) ?_
    refine lv_aload_n hx hb dXL_law_25 rfl (lv_at hl 0 rfl) ?_
    refine va_slen hx hb hX hbl hbA hS dXL_law_26 ?_
    refine lv_bipush (v := 6) hx hb dXL_law_27 (by decide) ?_
    refine lv_isub hx hb dXL_law_29 ?_
    refine lv_icmp_gt (tgt := 635) hx hb dXL_law_30 (by decide) (fun cgt => ?_) (fun cgt => ?_)
    · refine lv_iconst (v := 1) hx hb dXL_law_635 (by decide) ?_
      refine va_forget (fun q hq => hS.2.2 q hq) ?_
      refine W.widen (k := 601024) (n := 7293034) (by omega) (by omega) ?_
      exact lw_ret hx hb hr hlocks dXL_law_636
    · have hj6 : 6 * j + 6 ≤ L := by
        rw [ex4] at cgt
        exact Nat.not_lt.mp (fun q => cgt ((lp_in hL hj).mpr q))
      have h_0 : vp_in x4 L := by rw [ex4]; exact vp_in_nI (by omega) (by omega)
      have next1 : ∀ (d9 s9 : Nat), d9 ≤ 1 → s9 ≤ 6 → ∀ (u : HS) (v : RS) (o : Nat → Int64) (H : Heap) (locs : List Loc), u = phi v → Inv (setTH v 0) → va_P (dC, dI) vwCl (lW cI cL h0 qme0 qre1 qco2 k0 km kr qo u v o) H → va_D (zA s.heap.size) (lW cI cL h0 qme0 qre1 qco2 k0 km kr qo u v o) → va_S (zA s.heap.size) s.heap H locs → ∀ (ls : Array Slot), lv_has ls 7 [(0, .ref b), (1, .ref h0), (2, .ref k0), (3, .ref qo), (4, .int x4)] → W p l e room_1 s m #[Value.ref b] below meth c H locs (8 + j + d9) (131170 + 6 * j + s9) (lw_Z below #[Value.ref b] s) (F0 m 629 ls []) := by
        intro d9 s9 hd9 hs9 u v o H locs hu hi hP hD hS ls hl
        refine W.widen (k := 8 + (j + 1)) (n := 131170 + 6 * (j + 1)) (by omega) (by omega) ?_
        obtain ⟨x5, ex5⟩ : ∃ y : Int32, y = x4 + 6 := ⟨_, rfl⟩
        refine lv_iinc (v := x5) (lv' := [(4, .int x5), (0, .ref b), (1, .ref h0), (2, .ref k0), (3, .ref qo)]) hx hb dXL_law_629 hl (k := 4) rfl (by rw [ex5]; rfl) (by decide) rfl (fun ls hl => ?_)
        refine lv_goto (tgt := 23) hx hb dXL_law_632 (by decide) ?_
        exact ih (j + 1) x5 (by omega) (by omega) (by rw [ex5, ex4, show (6 : Int32) = nI 6 from rfl, nI_add', show 6 * j + 6 = 6 * (j + 1) by omega]) u v o H locs hu hi hP hD hS ls (lv_sub hl [1, 2, 3, 4, 0] rfl)
      refine lv_aload_n hx hb dXL_law_33 rfl (lv_at hl 0 rfl) ?_
      refine lv_iload hx hb dXL_law_34 (lv_at hl 4 rfl) ?_
      refine va_sld hx hb hX hbl hbA hS h_0 dXL_law_36 ?_
      refine lv_bipush (v := 15) hx hb dXL_law_37 (by decide) ?_
      refine lv_iand hx hb dXL_law_39 ?_
      refine lv_topi (fun w ew => ?_)
      by_cases c0 : w = 0
      · refine lv_tableIn (tgt := 96) (off := 56) hx hb dXL_law_40 (by rw [c0]; decide) (by rw [c0]; decide) (by rw [c0]; decide) (by decide) ?_
        exact lc_run hnt hL C0 hK hZ hX33 hX47 hX50 hX52 hX60 hX66 hj6 ex4 (next1 1 6 (Nat.le_refl 1) (Nat.le_refl 6)) hu hi hP hD hS ls hl
      by_cases c1 : w = 1
      · refine lv_tableIn (tgt := 152) (off := 112) hx hb dXL_law_40 (by rw [c1]; decide) (by rw [c1]; decide) (by rw [c1]; decide) (by decide) ?_
        exact lc_called hnt hL C0 hK hZ hX33 hX47 hX50 hX52 hX60 hX66 hj6 ex4 (next1 0 0 (by decide) (by decide)) hu hi hP hD hS ls hl
      by_cases c2 : w = 2
      · refine lv_tableIn (tgt := 165) (off := 125) hx hb dXL_law_40 (by rw [c2]; decide) (by rw [c2]; decide) (by rw [c2]; decide) (by decide) ?_
        exact lc_peek hnt hL C0 hK hZ hX33 hX47 hX50 hX52 hX60 hX66 hj6 ex4 (next1 1 6 (Nat.le_refl 1) (Nat.le_refl 6)) hu hi hP hD hS ls hl
      by_cases c3 : w = 3
      · refine lv_tableIn (tgt := 221) (off := 181) hx hb dXL_law_40 (by rw [c3]; decide) (by rw [c3]; decide) (by rw [c3]; decide) (by decide) ?_
        exact lc_poke hnt hL C0 hK hZ hX33 hX47 hX50 hX52 hX60 hX66 hj6 ex4 (next1 1 6 (Nat.le_refl 1) (Nat.le_refl 6)) hu hi hP hD hS ls hl
      by_cases c4 : w = 4
      · refine lv_tableIn (tgt := 269) (off := 229) hx hb dXL_law_40 (by rw [c4]; decide) (by rw [c4]; decide) (by rw [c4]; decide) (by decide) ?_
        exact lc_pokeFour hnt hL C0 hK hZ hX33 hX47 hX50 hX52 hX60 hX66 hj6 ex4 (next1 1 6 (Nat.le_refl 1) (Nat.le_refl 6)) hu hi hP hD hS ls hl
      by_cases c5 : w = 5
      · refine lv_tableIn (tgt := 353) (off := 313) hx hb dXL_law_40 (by rw [c5]; decide) (by rw [c5]; decide) (by rw [c5]; decide) (by decide) ?_
        exact lc_register hnt hL C0 hK hZ hX33 hX47 hX50 hX52 hX60 hX66 hj6 ex4 (next1 1 6 (Nat.le_refl 1) (Nat.le_refl 6)) hu hi hP hD hS ls hl
      by_cases c6 : w = 6
      · refine lv_tableIn (tgt := 409) (off := 369) hx hb dXL_law_40 (by rw [c6]; decide) (by rw [c6]; decide) (by rw [c6]; decide) (by decide) ?_
        exact lc_setRegister hnt hL C0 hK hZ hX33 hX47 hX50 hX52 hX60 hX66 hj6 ex4 (next1 1 6 (Nat.le_refl 1) (Nat.le_refl 6)) hu hi hP hD hS ls hl
      by_cases c7 : w = 7
      · refine lv_tableIn (tgt := 457) (off := 417) hx hb dXL_law_40 (by rw [c7]; decide) (by rw [c7]; decide) (by rw [c7]; decide) (by decide) ?_
        exact lc_control hnt hL C0 hK hZ hX33 hX47 hX50 hX52 hX60 hX66 hj6 ex4 (next1 1 6 (Nat.le_refl 1) (Nat.le_refl 6)) hu hi hP hD hS ls hl
      by_cases c8 : w = 8
      · refine lv_tableIn (tgt := 513) (off := 473) hx hb dXL_law_40 (by rw [c8]; decide) (by rw [c8]; decide) (by rw [c8]; decide) (by decide) ?_
        exact lc_setControl hnt hL C0 hK hZ hX33 hX47 hX50 hX52 hX60 hX66 hj6 ex4 (next1 1 6 (Nat.le_refl 1) (Nat.le_refl 6)) hu hi hP hD hS ls hl
      by_cases c9 : w = 9
      · refine lv_tableIn (tgt := 561) (off := 521) hx hb dXL_law_40 (by rw [c9]; decide) (by rw [c9]; decide) (by rw [c9]; decide) (by decide) ?_
        exact lc_translate hnt hL C0 hK hZ hX33 hX47 hX50 hX52 hX60 hX66 hj6 ex4 (next1 1 6 (Nat.le_refl 1) (Nat.le_refl 6)) hu hi hP hD hS ls hl
      refine lv_tableOut (tgt := 629) hx hb dXL_law_40 (by have := lv_neT (k := 0) (a := 0) c0 (by decide); have := lv_neT (k := 1) (a := 1) c1 (by decide); have := lv_neT (k := 2) (a := 2) c2 (by decide); have := lv_neT (k := 3) (a := 3) c3 (by decide); have := lv_neT (k := 4) (a := 4) c4 (by decide); have := lv_neT (k := 5) (a := 5) c5 (by decide); have := lv_neT (k := 6) (a := 6) c6 (by decide); have := lv_neT (k := 7) (a := 7) c7 (by decide); have := lv_neT (k := 8) (a := 8) c8 (by decide); have := lv_neT (k := 9) (a := 9) c9 (by decide); omega) (by decide) ?_
      exact next1 0 0 (by decide) (by decide) u v o H locs hu hi hP hD hS ls hl
