/-! what the start gives -/
theorem lw_nt {l : Launch} (h : l.flags = flags0) : l.stackTraces = false := by
  unfold Launch.stackTraces
  rw [h]
  decide +kernel
set_option maxRecDepth 100000 in
theorem tab_hNum {s : State} {b : Nat} (hgv : (Jvm.Cond.and given_1 narrow_1).before #[Value.ref b] s = true) : ∃ t : Nat, (Term.static "PagedHart" "CONTROL_NUMBERS" "[I").eval #[Value.ref b] s none [] s = some (.ref t) ∧ va_T .int t 9 (fun j => .int (hNum j)) (zA s.heap.size) s s.heap := by
  have hfl := flat_of_before _ hgv
  have e0 : (Term.elem (.static "PagedHart" "CONTROL_NUMBERS" "[I") (.int (0 : Int32))).eval #[Value.ref b] s none [] s = some (.int (256 : Int32)) := va_eqt (hfl (.eq (.elem (.static "PagedHart" "CONTROL_NUMBERS" "[I") (.int 0)) (.int (256))) (by decide +kernel))
  have e1 : (Term.elem (.static "PagedHart" "CONTROL_NUMBERS" "[I") (.int (1 : Int32))).eval #[Value.ref b] s none [] s = some (.int (261 : Int32)) := va_eqt (hfl (.eq (.elem (.static "PagedHart" "CONTROL_NUMBERS" "[I") (.int 1)) (.int (261))) (by decide +kernel))
  have e2 : (Term.elem (.static "PagedHart" "CONTROL_NUMBERS" "[I") (.int (2 : Int32))).eval #[Value.ref b] s none [] s = some (.int (320 : Int32)) := va_eqt (hfl (.eq (.elem (.static "PagedHart" "CONTROL_NUMBERS" "[I") (.int 2)) (.int (320))) (by decide +kernel))
  have e3 : (Term.elem (.static "PagedHart" "CONTROL_NUMBERS" "[I") (.int (3 : Int32))).eval #[Value.ref b] s none [] s = some (.int (321 : Int32)) := va_eqt (hfl (.eq (.elem (.static "PagedHart" "CONTROL_NUMBERS" "[I") (.int 3)) (.int (321))) (by decide +kernel))
  have e4 : (Term.elem (.static "PagedHart" "CONTROL_NUMBERS" "[I") (.int (4 : Int32))).eval #[Value.ref b] s none [] s = some (.int (322 : Int32)) := va_eqt (hfl (.eq (.elem (.static "PagedHart" "CONTROL_NUMBERS" "[I") (.int 4)) (.int (322))) (by decide +kernel))
  have e5 : (Term.elem (.static "PagedHart" "CONTROL_NUMBERS" "[I") (.int (5 : Int32))).eval #[Value.ref b] s none [] s = some (.int (323 : Int32)) := va_eqt (hfl (.eq (.elem (.static "PagedHart" "CONTROL_NUMBERS" "[I") (.int 5)) (.int (323))) (by decide +kernel))
  have e6 : (Term.elem (.static "PagedHart" "CONTROL_NUMBERS" "[I") (.int (6 : Int32))).eval #[Value.ref b] s none [] s = some (.int (384 : Int32)) := va_eqt (hfl (.eq (.elem (.static "PagedHart" "CONTROL_NUMBERS" "[I") (.int 6)) (.int (384))) (by decide +kernel))
  have e7 : (Term.elem (.static "PagedHart" "CONTROL_NUMBERS" "[I") (.int (7 : Int32))).eval #[Value.ref b] s none [] s = some (.int (1472 : Int32)) := va_eqt (hfl (.eq (.elem (.static "PagedHart" "CONTROL_NUMBERS" "[I") (.int 7)) (.int (1472))) (by decide +kernel))
  have e8 : (Term.elem (.static "PagedHart" "CONTROL_NUMBERS" "[I") (.int (8 : Int32))).eval #[Value.ref b] s none [] s = some (.int (1473 : Int32)) := va_eqt (hfl (.eq (.elem (.static "PagedHart" "CONTROL_NUMBERS" "[I") (.int 8)) (.int (1473))) (by decide +kernel))
  refine va_Tof (args := #[Value.ref b]) (tm := (.static "PagedHart" "CONTROL_NUMBERS" "[I")) (by decide) (hfl (.arrayOf (.static "PagedHart" "CONTROL_NUMBERS" "[I") .int) (by decide +kernel)) (va_eqt (hfl (.eq (.length (.static "PagedHart" "CONTROL_NUMBERS" "[I")) (.int 9)) (by decide +kernel))) (fun j hj => ?_) (fun a h => Nat.not_le.mpr h)
  match j, hj with
  | 0, _ => exact e0
  | 1, _ => exact e1
  | 2, _ => exact e2
  | 3, _ => exact e3
  | 4, _ => exact e4
  | 5, _ => exact e5
  | 6, _ => exact e6
  | 7, _ => exact e7
  | 8, _ => exact e8
  | n + 9, h => exact absurd h (by omega)
set_option maxRecDepth 100000 in
theorem tab_hBit {s : State} {b : Nat} (hgv : (Jvm.Cond.and given_1 narrow_1).before #[Value.ref b] s = true) : ∃ t : Nat, (Term.static "PagedHart" "CONTROL_BITS" "[I").eval #[Value.ref b] s none [] s = some (.ref t) ∧ va_T .int t 9 (fun j => .int (hBit j)) (zA s.heap.size) s s.heap := by
  have hfl := flat_of_before _ hgv
  have e0 : (Term.elem (.static "PagedHart" "CONTROL_BITS" "[I") (.int (0 : Int32))).eval #[Value.ref b] s none [] s = some (.int (262400 : Int32)) := va_eqt (hfl (.eq (.elem (.static "PagedHart" "CONTROL_BITS" "[I") (.int 0)) (.int (262400))) (by decide +kernel))
  have e1 : (Term.elem (.static "PagedHart" "CONTROL_BITS" "[I") (.int (1 : Int32))).eval #[Value.ref b] s none [] s = some (.int (-4 : Int32)) := va_eqt (hfl (.eq (.elem (.static "PagedHart" "CONTROL_BITS" "[I") (.int 1)) (.int (-4))) (by decide +kernel))
  have e2 : (Term.elem (.static "PagedHart" "CONTROL_BITS" "[I") (.int (2 : Int32))).eval #[Value.ref b] s none [] s = some (.int (-1 : Int32)) := va_eqt (hfl (.eq (.elem (.static "PagedHart" "CONTROL_BITS" "[I") (.int 2)) (.int (-1))) (by decide +kernel))
  have e3 : (Term.elem (.static "PagedHart" "CONTROL_BITS" "[I") (.int (3 : Int32))).eval #[Value.ref b] s none [] s = some (.int (-4 : Int32)) := va_eqt (hfl (.eq (.elem (.static "PagedHart" "CONTROL_BITS" "[I") (.int 3)) (.int (-4))) (by decide +kernel))
  have e4 : (Term.elem (.static "PagedHart" "CONTROL_BITS" "[I") (.int (4 : Int32))).eval #[Value.ref b] s none [] s = some (.int (-1 : Int32)) := va_eqt (hfl (.eq (.elem (.static "PagedHart" "CONTROL_BITS" "[I") (.int 4)) (.int (-1))) (by decide +kernel))
  have e5 : (Term.elem (.static "PagedHart" "CONTROL_BITS" "[I") (.int (5 : Int32))).eval #[Value.ref b] s none [] s = some (.int (-1 : Int32)) := va_eqt (hfl (.eq (.elem (.static "PagedHart" "CONTROL_BITS" "[I") (.int 5)) (.int (-1))) (by decide +kernel))
  have e6 : (Term.elem (.static "PagedHart" "CONTROL_BITS" "[I") (.int (6 : Int32))).eval #[Value.ref b] s none [] s = some (.int (-1 : Int32)) := va_eqt (hfl (.eq (.elem (.static "PagedHart" "CONTROL_BITS" "[I") (.int 6)) (.int (-1))) (by decide +kernel))
  have e7 : (Term.elem (.static "PagedHart" "CONTROL_BITS" "[I") (.int (7 : Int32))).eval #[Value.ref b] s none [] s = some (.int (-1 : Int32)) := va_eqt (hfl (.eq (.elem (.static "PagedHart" "CONTROL_BITS" "[I") (.int 7)) (.int (-1))) (by decide +kernel))
  have e8 : (Term.elem (.static "PagedHart" "CONTROL_BITS" "[I") (.int (8 : Int32))).eval #[Value.ref b] s none [] s = some (.int (-1 : Int32)) := va_eqt (hfl (.eq (.elem (.static "PagedHart" "CONTROL_BITS" "[I") (.int 8)) (.int (-1))) (by decide +kernel))
  refine va_Tof (args := #[Value.ref b]) (tm := (.static "PagedHart" "CONTROL_BITS" "[I")) (by decide) (hfl (.arrayOf (.static "PagedHart" "CONTROL_BITS" "[I") .int) (by decide +kernel)) (va_eqt (hfl (.eq (.length (.static "PagedHart" "CONTROL_BITS" "[I")) (.int 9)) (by decide +kernel))) (fun j hj => ?_) (fun a h => Nat.not_le.mpr h)
  match j, hj with
  | 0, _ => exact e0
  | 1, _ => exact e1
  | 2, _ => exact e2
  | 3, _ => exact e3
  | 4, _ => exact e4
  | 5, _ => exact e5
  | 6, _ => exact e6
  | 7, _ => exact e7
  | 8, _ => exact e8
  | n + 9, h => exact absurd h (by omega)
set_option maxRecDepth 100000 in
theorem lw_given {p : Program} {s : State} {m : MethodId} {meth : Method} {c : Code} {b L : Nat} {xs : Nat → Int32} (C0 : lw_At p s m meth c b L xs) : ∃ tN tB sa33 sa47 sa50 sa52 sa60 sa66 : Nat, gZ tN tB (zA s.heap.size) s s.heap ∧ gX "java/lang/IllegalArgumentException" "steps are 0 to 20000" 33 sa33 (zA s.heap.size) s s.heap ∧ gX "java/lang/IndexOutOfBoundsException" "no word of the memory" 47 sa47 (zA s.heap.size) s s.heap ∧ gX "java/lang/IndexOutOfBoundsException" "not four words of the memory" 50 sa50 (zA s.heap.size) s s.heap ∧ gX "java/lang/IndexOutOfBoundsException" "registers are 0 to 33" 52 sa52 (zA s.heap.size) s s.heap ∧ gX "java/util/NoSuchElementException" "no control of that number" 60 sa60 (zA s.heap.size) s s.heap ∧ gX "java/lang/IllegalArgumentException" "how is 0, 1 or 2" 66 sa66 (zA s.heap.size) s s.heap := by
  obtain ⟨hx, hb, hr, hml, hown, hts, hX, hbl, hlocks, hgv⟩ := C0
  have hfl := flat_of_before _ hgv
  have hnA : ∀ a : Nat, a < s.heap.size → ¬ (zA s.heap.size) a := fun a h => Nat.not_le.mpr h
  obtain ⟨tN, eN, hTN⟩ := tab_hNum hgv
  obtain ⟨tB, eB, hTB⟩ := tab_hBit hgv
  have hZN := va_Zof (hts (.laysStatic "PagedHart" "CONTROL_NUMBERS" "[I") (by decide +kernel)) (hts _ (gBIG_in _ mN_0)) eN hnA
  have hZB := va_Zof (hts (.laysStatic "PagedHart" "CONTROL_BITS" "[I") (by decide +kernel)) (hts _ (gBIG_in _ mN_0)) eB hnA
  have hU : vx_Zq Bundle.tN "UNASSIGNED_STACK" Bundle.steD (zA s.heap.size) s s.heap := vx_Zqof (hts (.laysStatic "java/lang/Throwable" "UNASSIGNED_STACK" "[Ljava/lang/StackTraceElement;") (by decide +kernel)) (hts _ (gBIG_in _ mN_Throwable)) (hfl (.isRef (.static "java/lang/Throwable" "UNASSIGNED_STACK" "[Ljava/lang/StackTraceElement;")) (by decide +kernel)) hnA
  have hV : vx_Zq Bundle.tN "SUPPRESSED_SENTINEL" Bundle.listD (zA s.heap.size) s s.heap := vx_Zqof (hts (.laysStatic "java/lang/Throwable" "SUPPRESSED_SENTINEL" "Ljava/util/List;") (by decide +kernel)) (hts _ (gBIG_in _ mN_Throwable)) (hfl (.isRef (.static "java/lang/Throwable" "SUPPRESSED_SENTINEL" "Ljava/util/List;")) (by decide +kernel)) hnA
  have d1 : va_Nw xD1 s := va_Nw.of rfl (hts xD1 (by decide +kernel))
  have d2 : va_Nw xD2 s := va_Nw.of rfl (hts xD2 (by decide +kernel))
  have d3 : va_Nw xD3 s := va_Nw.of rfl (hts xD3 (by decide +kernel))
  have xiae : xB "java/lang/IllegalArgumentException" s := ⟨va_Nw.of rfl (hts (.castable "java/lang/IllegalArgumentException" "java/lang/IllegalArgumentException") (by decide +kernel)), d1, d2, d3⟩
  have xiob : xB "java/lang/IndexOutOfBoundsException" s := ⟨va_Nw.of rfl (hts (.castable "java/lang/IndexOutOfBoundsException" "java/lang/IndexOutOfBoundsException") (by decide +kernel)), d1, d2, d3⟩
  have xnse : xB "java/util/NoSuchElementException" s := ⟨va_Nw.of rfl (hts (.castable "java/util/NoSuchElementException" "java/util/NoSuchElementException") (by decide +kernel)), d1, d2, d3⟩
  obtain ⟨a33, -, -, -, q33, -⟩ := Cond.exactly_spec (args := #[Value.ref b]) (first := s) (o := none) (s := s) (idx := []) (t := .string "PagedHart" 33) (cls := "java/lang/String") (hfl (.exactly (.string "PagedHart" 33) "java/lang/String") (by decide +kernel))
  obtain ⟨a47, -, -, -, q47, -⟩ := Cond.exactly_spec (args := #[Value.ref b]) (first := s) (o := none) (s := s) (idx := []) (t := .string "PagedHart" 47) (cls := "java/lang/String") (hfl (.exactly (.string "PagedHart" 47) "java/lang/String") (by decide +kernel))
  obtain ⟨a50, -, -, -, q50, -⟩ := Cond.exactly_spec (args := #[Value.ref b]) (first := s) (o := none) (s := s) (idx := []) (t := .string "PagedHart" 50) (cls := "java/lang/String") (hfl (.exactly (.string "PagedHart" 50) "java/lang/String") (by decide +kernel))
  obtain ⟨a52, -, -, -, q52, -⟩ := Cond.exactly_spec (args := #[Value.ref b]) (first := s) (o := none) (s := s) (idx := []) (t := .string "PagedHart" 52) (cls := "java/lang/String") (hfl (.exactly (.string "PagedHart" 52) "java/lang/String") (by decide +kernel))
  obtain ⟨a60, -, -, -, q60, -⟩ := Cond.exactly_spec (args := #[Value.ref b]) (first := s) (o := none) (s := s) (idx := []) (t := .string "PagedHart" 60) (cls := "java/lang/String") (hfl (.exactly (.string "PagedHart" 60) "java/lang/String") (by decide +kernel))
  obtain ⟨a66, -, -, -, q66, -⟩ := Cond.exactly_spec (args := #[Value.ref b]) (first := s) (o := none) (s := s) (idx := []) (t := .string "PagedHart" 66) (cls := "java/lang/String") (hfl (.exactly (.string "PagedHart" 66) "java/lang/String") (by decide +kernel))
  exact ⟨tN, tB, a33, a47, a50, a52, a60, a66, ⟨hZN, hTN, hZB, hTB⟩, ⟨hU, hV, xiae, vk_R.of (hts (.stringRef "PagedHart" 33 "steps are 0 to 20000") (by decide +kernel)) q33⟩, ⟨hU, hV, xiob, vk_R.of (hts (.stringRef "PagedHart" 47 "no word of the memory") (by decide +kernel)) q47⟩, ⟨hU, hV, xiob, vk_R.of (hts (.stringRef "PagedHart" 50 "not four words of the memory") (by decide +kernel)) q50⟩, ⟨hU, hV, xiob, vk_R.of (hts (.stringRef "PagedHart" 52 "registers are 0 to 33") (by decide +kernel)) q52⟩, ⟨hU, hV, xnse, vk_R.of (hts (.stringRef "PagedHart" 60 "no control of that number") (by decide +kernel)) q60⟩, ⟨hU, hV, xiae, vk_R.of (hts (.stringRef "PagedHart" 66 "how is 0, 1 or 2") (by decide +kernel)) q66⟩⟩
