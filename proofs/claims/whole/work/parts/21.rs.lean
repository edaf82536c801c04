def r_plain (p1 : Int32) : Int64 :=
  (p1.toInt64 &&& (4294967295 : Int64))
set_option maxHeartbeats 4000000 in
set_option maxRecDepth 100000 in
theorem cr_plain (l : Launch) (p1 : Int32) : Met l yX1_plain (.code yX1_plain cX1_plain 1 (some .long) :: gBIG) ({ frames := 0, cells := 0, slots := 0, locals := 0 }) (va_Pc [.int p1] (fun _ => True)) (QlRead (r_plain p1)) 0 0 (fun _ => False) := by
  refine Met.ofW (cc := cX1_plain) (maxL := 1) (ret := (some .long)) (by decide) rfl ?_
  intro p e s m args below meth c s₁ B hml hv
  obtain ⟨rfl, -⟩ := hv
  have hx := B.exec
  have hb := B.bytes
  have hr := B.returns
  have hts : ∀ w ∈ gBIG, w.before _ s = true := fun w h => atoms_spec (ws := (.code yX1_plain cX1_plain 1 (some .long) :: gBIG)) B.pre w (List.mem_cons_of_mem _ h)
  have hown : s.vm.findClass "PagedHartModel" = some m.cls := findClass_of_methodNamed B.named
  have hlocks := B.notSynchronized
  have hl := lv_entry ([.int p1]) (n := 1) (Nat.le_of_ble_eq_true rfl)
  rw [lg_entry_eq]
  generalize (lg_sl ([.int p1]) ++ List.replicate (1 - (lg_sl ([.int p1])).length) Slot.unset).toArray = ls at hl ⊢
  have hl : lv_has ls 1 [(0, .int p1)] := hl
  refine lv_iload_n hx hb dX1_plain_0 rfl (lv_at hl 0 rfl) ?_
  refine lv_i2l (v := p1.toInt64) hx hb dX1_plain_1 rfl ?_
  refine lv_ldc2 (v := 4294967295) hx hb hown (hts _ mC_1_34) dX1_plain_2 ?_
  refine lv_land hx hb dX1_plain_5 ?_
  exact W.lret (v := p1.toInt64 &&& (4294967295 : Int64)) hx hb hr (fun t ht hW => ⟨jql (by exact (rfl).symm), ht⟩) (fun q h => by cases h) dX1_plain_6
theorem r_plain_n (a : Int32) : r_plain a = lN a.toBitVec.toNat := by
  apply Int64.toBitVec_inj.mp
  unfold r_plain
  rw [h_lo]
  show a.toBitVec.setWidth 64 = BitVec.ofNat 64 a.toBitVec.toNat
  apply BitVec.eq_of_toNat_eq
  simp
theorem n_of (a : Int32) : a = nI a.toBitVec.toNat := by
  apply Int32.toBitVec_inj.mp
  apply BitVec.eq_of_toNat_eq
  rw [pk_tn a.toBitVec.isLt]
theorem r_and31 (x : Int64) : vp_in (x &&& 31).toInt32 32 := by
  rw [Int64.toInt32_and]
  exact pk_andIn x.toInt32 5 rfl (by decide)
theorem r_cmp0 {y : Int64} (h : ¬ lg_cmp y (0 : Int64) = 0) : ¬ y = 0 := fun q => h (by rw [q]; decide)
theorem r_in4 {i : Int32} (h1 : ¬ i < 0) (h2 : i ≤ (33 : Int32)) (h3 : ¬ i = (32 : Int32)) (h4 : ¬ i = (33 : Int32)) : vp_in i 32 := by
  obtain ⟨j, hj, rfl⟩ := nI_of h1
  have a2 : j ≤ 33 := (nI_leI hj (by decide)).mp h2
  have a3 : ¬ j = 32 := fun q => h3 (by rw [q]; rfl)
  have a4 : ¬ j = 33 := fun q => h4 (by rw [q]; rfl)
  exact vp_in_nI (by omega) (by decide)

def r_bits (p1 : Int32) (p2 : Int32) (p3 : Int32) : Int32 :=
  let y1 : Int64 := r_plain p1
  let y2 : Int64 := ((1 : Int64) <<< (((p3 - p2) + (1 : Int32)).toInt64 &&& 63)) - (1 : Int64)
  (((y1 >>> (p2.toInt64 &&& 63)) &&& y2).toInt32)
set_option maxHeartbeats 4000000 in
set_option maxRecDepth 100000 in
theorem cr_bits (l : Launch) (p1 : Int32) (p2 : Int32) (p3 : Int32) : Met l yX1_bits (.code yX1_bits cX1_bits 3 (some .int) :: gBIG) ({ frames := 1, cells := 0, slots := 0, locals := 20 }) (va_Pc [.int p1, .int p2, .int p3] (fun _ => True)) (QcRead (r_bits p1 p2 p3)) 0 0 (fun _ => False) := by
  refine Met.ofW (cc := cX1_bits) (maxL := 3) (ret := (some .int)) (by decide) rfl ?_
  intro p e s m args below meth c s₁ B hml hv
  obtain ⟨rfl, -⟩ := hv
  have hx := B.exec
  have hb := B.bytes
  have hr := B.returns
  have hts : ∀ w ∈ gBIG, w.before _ s = true := fun w h => atoms_spec (ws := (.code yX1_bits cX1_bits 3 (some .int) :: gBIG)) B.pre w (List.mem_cons_of_mem _ h)
  have hown : s.vm.findClass "PagedHartModel" = some m.cls := findClass_of_methodNamed B.named
  have hlocks := B.notSynchronized
  have hl := lv_entry ([.int p1, .int p2, .int p3]) (n := 3) (Nat.le_of_ble_eq_true rfl)
  rw [lg_entry_eq]
  generalize (lg_sl ([.int p1, .int p2, .int p3]) ++ List.replicate (3 - (lg_sl ([.int p1, .int p2, .int p3])).length) Slot.unset).toArray = ls at hl ⊢
  have hl : lv_has ls 3 [(0, .int p1), (1, .int p2), (2, .int p3)] := hl
  refine lv_iload_n hx hb dX1_bits_0 rfl (lv_at hl 0 rfl) ?_
  refine jcallRl (W.runS (As := [.int p1]) (rest := []) ⟨hx, hb, hml, hown, hts⟩ (cr_plain l p1) (cwS 1 hts (gS mL_1_36 mS_1_plain mN_1 mB_1_plain) rfl rfl rfl (by decide +kernel) ⟨Nat.le_of_ble_eq_true rfl, Nat.le_of_ble_eq_true rfl⟩) ⟨jblind, fun _ _ _ => ⟨rfl, trivial⟩⟩ rfl rfl hl.1 rfl (lv_room (Nat.le_of_ble_eq_true rfl)) dX1_bits_1 ⟨Nat.zero_le _, Nat.zero_le _⟩) ?_
  refine lv_topl (fun y1 ey1 => ?_)
  refine lv_iload_n hx hb dX1_bits_4 rfl (lv_at hl 1 rfl) ?_
  refine lv_lshr (v := y1 >>> (p2.toInt64 &&& 63)) hx hb dX1_bits_5 rfl ?_
  refine lv_lconst (v := 1) hx hb dX1_bits_6 (by decide) ?_
  refine lv_iload_n hx hb dX1_bits_7 rfl (lv_at hl 2 rfl) ?_
  refine lv_iload_n hx hb dX1_bits_8 rfl (lv_at hl 1 rfl) ?_
  refine lv_isub hx hb dX1_bits_9 ?_
  refine lv_iconst (v := 1) hx hb dX1_bits_10 (by decide) ?_
  refine lv_iadd hx hb dX1_bits_11 ?_
  refine lv_lshl (v := (1 : Int64) <<< (((p3 - p2) + (1 : Int32)).toInt64 &&& 63)) hx hb dX1_bits_12 rfl ?_
  refine lv_lconst (v := 1) hx hb dX1_bits_13 (by decide) ?_
  refine lv_lsub hx hb dX1_bits_14 ?_
  refine lv_topl (fun y2 ey2 => ?_)
  refine lv_land hx hb dX1_bits_15 ?_
  refine lv_l2i (v := ((y1 >>> (p2.toInt64 &&& 63)) &&& y2).toInt32) hx hb dX1_bits_16 rfl ?_
  exact W.iret (v := ((y1 >>> (p2.toInt64 &&& 63)) &&& y2).toInt32) hx hb hr (fun t ht hW => ⟨jq (by subst ey2 ey1; exact (rfl).symm), ht⟩) (fun q h => by cases h) dX1_bits_17
theorem r_in5 (w f t : Int32) (h : (((1 : Int64) <<< (((t - f) + (1 : Int32)).toInt64 &&& 63)) - (1 : Int64)) = 31) : vp_in (r_bits w f t) 32 := by
  unfold r_bits
  dsimp only
  rw [h]
  exact r_and31 _

def r_has (p1 : Int32) (p2 : Int32) : Int32 :=
  if ((p1 >>> (p2 &&& 31)) &&& (1 : Int32)) = (1 : Int32) then
    (1 : Int32)
  else
    (0 : Int32)
set_option maxHeartbeats 4000000 in
set_option maxRecDepth 100000 in
theorem cr_has (l : Launch) (p1 : Int32) (p2 : Int32) : Met l yX1_has (.code yX1_has cX1_has 2 (some .boolean) :: gBIG) ({ frames := 0, cells := 0, slots := 0, locals := 0 }) (va_Pc [.int p1, .int p2] (fun _ => True)) (QcRead (r_has p1 p2)) 0 0 (fun _ => False) := by
  refine Met.ofW (cc := cX1_has) (maxL := 2) (ret := (some .boolean)) (by decide) rfl ?_
  intro p e s m args below meth c s₁ B hml hv
  obtain ⟨rfl, -⟩ := hv
  have hx := B.exec
  have hb := B.bytes
  have hr := B.returns
  have hts : ∀ w ∈ gBIG, w.before _ s = true := fun w h => atoms_spec (ws := (.code yX1_has cX1_has 2 (some .boolean) :: gBIG)) B.pre w (List.mem_cons_of_mem _ h)
  have hown : s.vm.findClass "PagedHartModel" = some m.cls := findClass_of_methodNamed B.named
  have hlocks := B.notSynchronized
  have hl := lv_entry ([.int p1, .int p2]) (n := 2) (Nat.le_of_ble_eq_true rfl)
  rw [lg_entry_eq]
  generalize (lg_sl ([.int p1, .int p2]) ++ List.replicate (2 - (lg_sl ([.int p1, .int p2])).length) Slot.unset).toArray = ls at hl ⊢
  have hl : lv_has ls 2 [(0, .int p1), (1, .int p2)] := hl
  refine lv_iload_n hx hb dX1_has_0 rfl (lv_at hl 0 rfl) ?_
  refine lv_iload_n hx hb dX1_has_1 rfl (lv_at hl 1 rfl) ?_
  refine lv_ishr hx hb dX1_has_2 ?_
  refine lv_iconst (v := 1) hx hb dX1_has_3 (by decide) ?_
  refine lv_iand hx hb dX1_has_4 ?_
  refine lv_iconst (v := 1) hx hb dX1_has_5 (by decide) ?_
  refine lv_icmp_ne (tgt := 13) hx hb dX1_has_6 (by decide) (fun c1 => ?_) (fun c1 => ?_)
  · refine lv_iconst (v := 0) hx hb dX1_has_13 (by decide) ?_
    exact W.zret (v := 0) hx hb hr rfl (fun t ht hW => ⟨jq (by exact (((if_neg c1).trans rfl)).symm), ht⟩) (fun q h => by cases h) dX1_has_14
  · refine lv_iconst (v := 1) hx hb dX1_has_9 (by decide) ?_
    refine lv_goto (tgt := 14) hx hb dX1_has_10 (by decide) ?_
    exact W.zret (v := 1) hx hb hr rfl (fun t ht hW => ⟨jq (by exact (((if_pos c1).trans rfl)).symm), ht⟩) (fun q h => by cases h) dX1_has_14

def r_isWord (p1 : Int32) : Int32 :=
  let y1 : Int64 := r_plain p1
  if 0 ≤ (lg_cmp y1 (262144 : Int64)) then
    (0 : Int32)
  else
    (1 : Int32)
set_option maxHeartbeats 4000000 in
set_option maxRecDepth 100000 in
theorem cr_isWord (l : Launch) (p1 : Int32) : Met l yX1_isWord (.code yX1_isWord cX1_isWord 1 (some .boolean) :: gBIG) ({ frames := 1, cells := 0, slots := 0, locals := 20 }) (va_Pc [.int p1] (fun _ => True)) (QcRead (r_isWord p1)) 0 0 (fun _ => False) := by
  refine Met.ofW (cc := cX1_isWord) (maxL := 1) (ret := (some .boolean)) (by decide) rfl ?_
  intro p e s m args below meth c s₁ B hml hv
  obtain ⟨rfl, -⟩ := hv
  have hx := B.exec
  have hb := B.bytes
  have hr := B.returns
  have hts : ∀ w ∈ gBIG, w.before _ s = true := fun w h => atoms_spec (ws := (.code yX1_isWord cX1_isWord 1 (some .boolean) :: gBIG)) B.pre w (List.mem_cons_of_mem _ h)
  have hown : s.vm.findClass "PagedHartModel" = some m.cls := findClass_of_methodNamed B.named
  have hlocks := B.notSynchronized
  have hl := lv_entry ([.int p1]) (n := 1) (Nat.le_of_ble_eq_true rfl)
  rw [lg_entry_eq]
  generalize (lg_sl ([.int p1]) ++ List.replicate (1 - (lg_sl ([.int p1])).length) Slot.unset).toArray = ls at hl ⊢
  have hl : lv_has ls 1 [(0, .int p1)] := hl
  refine lv_iload_n hx hb dX1_isWord_0 rfl (lv_at hl 0 rfl) ?_
  refine jcallRl (W.runS (As := [.int p1]) (rest := []) ⟨hx, hb, hml, hown, hts⟩ (cr_plain l p1) (cwS 1 hts (gS mL_1_36 mS_1_plain mN_1 mB_1_plain) rfl rfl rfl (by decide +kernel) ⟨Nat.le_of_ble_eq_true rfl, Nat.le_of_ble_eq_true rfl⟩) ⟨jblind, fun _ _ _ => ⟨rfl, trivial⟩⟩ rfl rfl hl.1 rfl (lv_room (Nat.le_of_ble_eq_true rfl)) dX1_isWord_1 ⟨Nat.zero_le _, Nat.zero_le _⟩) ?_
  refine lv_topl (fun y1 ey1 => ?_)
  refine lv_ldc2 (v := 262144) hx hb hown (hts _ mC_1_40) dX1_isWord_4 ?_
  refine W.lcmp hx hb dX1_isWord_7 ?_
  refine lv_if_ge (tgt := 15) hx hb dX1_isWord_8 (by decide) (fun c2 => ?_) (fun c2 => ?_)
  · refine lv_iconst (v := 0) hx hb dX1_isWord_15 (by decide) ?_
    exact W.zret (v := 0) hx hb hr rfl (fun t ht hW => ⟨jq (by subst ey1; exact (((if_pos c2).trans rfl)).symm), ht⟩) (fun q h => by cases h) dX1_isWord_16
  · refine lv_iconst (v := 1) hx hb dX1_isWord_11 (by decide) ?_
    refine lv_goto (tgt := 16) hx hb dX1_isWord_12 (by decide) ?_
    exact W.zret (v := 1) hx hb hr rfl (fun t ht hW => ⟨jq (by subst ey1; exact (((if_neg c2).trans rfl)).symm), ht⟩) (fun q h => by cases h) dX1_isWord_16
theorem r_word_of {a : Int32} (h : ¬ r_isWord a = 0) : ∃ j : Nat, j < 262144 ∧ a = nI j := by
  unfold r_isWord at h
  dsimp only at h
  refine ⟨a.toBitVec.toNat, ?_, n_of a⟩
  by_cases h1 : 0 ≤ lg_cmp (r_plain a) (262144 : Int64)
  · rw [if_pos h1] at h; exact absurd rfl h
  · rw [lg_cmp_ge, r_plain_n] at h1
    have h2 : ¬ lN 262144 ≤ lN a.toBitVec.toNat := h1
    have h3 := a.toBitVec.isLt
    rw [pk_lLE (by decide) (by omega)] at h2
    omega
theorem r_div4 {j : Nat} (h : j < 262144) : nI j / (4 : Int32) = nI (j / 4) := pk_div (a := j) (d := 4) (by omega) (by decide) (by decide)
theorem r_in1 {a : Int32} (h : ¬ r_isWord a = 0) : vp_in (a / (4 : Int32)) 65536 := by
  obtain ⟨j, hj, rfl⟩ := r_word_of h
  rw [r_div4 hj]
  exact vp_in_nI (by omega) (by decide)

def r_pageCause (p1 : Int32) : Int32 :=
  if p1 = 0 then
    (12 : Int32)
  else
    if p1 = (1 : Int32) then
      (13 : Int32)
    else
      (15 : Int32)
set_option maxHeartbeats 4000000 in
set_option maxRecDepth 100000 in
theorem cr_pageCause (l : Launch) (p1 : Int32) : Met l yX1_pageCause (.code yX1_pageCause cX1_pageCause 1 (some .int) :: gBIG) ({ frames := 0, cells := 0, slots := 0, locals := 0 }) (va_Pc [.int p1] (fun _ => True)) (QcRead (r_pageCause p1)) 0 0 (fun _ => False) := by
  refine Met.ofW (cc := cX1_pageCause) (maxL := 1) (ret := (some .int)) (by decide) rfl ?_
  intro p e s m args below meth c s₁ B hml hv
  obtain ⟨rfl, -⟩ := hv
  have hx := B.exec
  have hb := B.bytes
  have hr := B.returns
  have hts : ∀ w ∈ gBIG, w.before _ s = true := fun w h => atoms_spec (ws := (.code yX1_pageCause cX1_pageCause 1 (some .int) :: gBIG)) B.pre w (List.mem_cons_of_mem _ h)
  have hown : s.vm.findClass "PagedHartModel" = some m.cls := findClass_of_methodNamed B.named
  have hlocks := B.notSynchronized
  have hl := lv_entry ([.int p1]) (n := 1) (Nat.le_of_ble_eq_true rfl)
  rw [lg_entry_eq]
  generalize (lg_sl ([.int p1]) ++ List.replicate (1 - (lg_sl ([.int p1])).length) Slot.unset).toArray = ls at hl ⊢
  have hl : lv_has ls 1 [(0, .int p1)] := hl
  refine lv_iload_n hx hb dX1_pageCause_0 rfl (lv_at hl 0 rfl) ?_
  refine lv_if_ne (tgt := 9) hx hb dX1_pageCause_1 (by decide) (fun c1 => ?_) (fun c1 => ?_)
  · refine lv_iload_n hx hb dX1_pageCause_9 rfl (lv_at hl 0 rfl) ?_
    refine lv_iconst (v := 1) hx hb dX1_pageCause_10 (by decide) ?_
    refine lv_icmp_ne (tgt := 19) hx hb dX1_pageCause_11 (by decide) (fun c2 => ?_) (fun c2 => ?_)
    · refine lv_bipush (v := 15) hx hb dX1_pageCause_19 (by decide) ?_
      exact W.iret (v := 15) hx hb hr (fun t ht hW => ⟨jq (by exact (((if_neg c1).trans ((if_neg c2).trans rfl))).symm), ht⟩) (fun q h => by cases h) dX1_pageCause_21
    · refine lv_bipush (v := 13) hx hb dX1_pageCause_14 (by decide) ?_
      refine lv_goto (tgt := 21) hx hb dX1_pageCause_16 (by decide) ?_
      exact W.iret (v := 13) hx hb hr (fun t ht hW => ⟨jq (by exact (((if_neg c1).trans ((if_pos c2).trans rfl))).symm), ht⟩) (fun q h => by cases h) dX1_pageCause_21
  · refine lv_bipush (v := 12) hx hb dX1_pageCause_4 (by decide) ?_
    refine lv_goto (tgt := 21) hx hb dX1_pageCause_6 (by decide) ?_
    exact W.iret (v := 12) hx hb hr (fun t ht hW => ⟨jq (by exact (((if_pos c1).trans rfl)).symm), ht⟩) (fun q h => by cases h) dX1_pageCause_21

def r_accessCause (p1 : Int32) : Int32 :=
  if p1 = 0 then
    (1 : Int32)
  else
    if p1 = (1 : Int32) then
      (5 : Int32)
    else
      (7 : Int32)
set_option maxHeartbeats 4000000 in
set_option maxRecDepth 100000 in
theorem cr_accessCause (l : Launch) (p1 : Int32) : Met l yX1_accessCause (.code yX1_accessCause cX1_accessCause 1 (some .int) :: gBIG) ({ frames := 0, cells := 0, slots := 0, locals := 0 }) (va_Pc [.int p1] (fun _ => True)) (QcRead (r_accessCause p1)) 0 0 (fun _ => False) := by
  refine Met.ofW (cc := cX1_accessCause) (maxL := 1) (ret := (some .int)) (by decide) rfl ?_
  intro p e s m args below meth c s₁ B hml hv
  obtain ⟨rfl, -⟩ := hv
  have hx := B.exec
  have hb := B.bytes
  have hr := B.returns
  have hts : ∀ w ∈ gBIG, w.before _ s = true := fun w h => atoms_spec (ws := (.code yX1_accessCause cX1_accessCause 1 (some .int) :: gBIG)) B.pre w (List.mem_cons_of_mem _ h)
  have hown : s.vm.findClass "PagedHartModel" = some m.cls := findClass_of_methodNamed B.named
  have hlocks := B.notSynchronized
  have hl := lv_entry ([.int p1]) (n := 1) (Nat.le_of_ble_eq_true rfl)
  rw [lg_entry_eq]
  generalize (lg_sl ([.int p1]) ++ List.replicate (1 - (lg_sl ([.int p1])).length) Slot.unset).toArray = ls at hl ⊢
  have hl : lv_has ls 1 [(0, .int p1)] := hl
  refine lv_iload_n hx hb dX1_accessCause_0 rfl (lv_at hl 0 rfl) ?_
  refine lv_if_ne (tgt := 8) hx hb dX1_accessCause_1 (by decide) (fun c1 => ?_) (fun c1 => ?_)
  · refine lv_iload_n hx hb dX1_accessCause_8 rfl (lv_at hl 0 rfl) ?_
    refine lv_iconst (v := 1) hx hb dX1_accessCause_9 (by decide) ?_
    refine lv_icmp_ne (tgt := 17) hx hb dX1_accessCause_10 (by decide) (fun c2 => ?_) (fun c2 => ?_)
    · refine lv_bipush (v := 7) hx hb dX1_accessCause_17 (by decide) ?_
      exact W.iret (v := 7) hx hb hr (fun t ht hW => ⟨jq (by exact (((if_neg c1).trans ((if_neg c2).trans rfl))).symm), ht⟩) (fun q h => by cases h) dX1_accessCause_19
    · refine lv_iconst (v := 5) hx hb dX1_accessCause_13 (by decide) ?_
      refine lv_goto (tgt := 19) hx hb dX1_accessCause_14 (by decide) ?_
      exact W.iret (v := 5) hx hb hr (fun t ht hW => ⟨jq (by exact (((if_neg c1).trans ((if_pos c2).trans rfl))).symm), ht⟩) (fun q h => by cases h) dX1_accessCause_19
  · refine lv_iconst (v := 1) hx hb dX1_accessCause_4 (by decide) ?_
    refine lv_goto (tgt := 19) hx hb dX1_accessCause_5 (by decide) ?_
    exact W.iret (v := 1) hx hb hr (fun t ht hW => ⟨jq (by exact (((if_pos c1).trans rfl)).symm), ht⟩) (fun q h => by cases h) dX1_accessCause_19
theorem r_nA (b : Int32) : ¬ r_accessCause b < 0 := by
  unfold r_accessCause
  (repeat' split) <;> decide
theorem r_nP (b : Int32) : ¬ r_pageCause b < 0 := by
  unfold r_pageCause
  (repeat' split) <;> decide

def r_far (p1 : Int32) : Int32 :=
  let x1 : Int32 := r_bits p1 (12 : Int32) (19 : Int32)
  let x2 : Int32 := ((p1 >>> ((31 : Int32) &&& 31)) * (1048576 : Int32)) + (x1 * (4096 : Int32))
  let x3 : Int32 := r_bits p1 (20 : Int32) (20 : Int32)
  let x4 : Int32 := r_bits p1 (21 : Int32) (30 : Int32)
  ((x2 + (x3 * (2048 : Int32))) + (x4 * (2 : Int32)))
set_option maxHeartbeats 4000000 in
set_option maxRecDepth 100000 in
theorem cr_far (l : Launch) (p1 : Int32) : Met l yX1_far (.code yX1_far cX1_far 1 (some .int) :: gBIG) ({ frames := 2, cells := 0, slots := 0, locals := 42 }) (va_Pc [.int p1] (fun _ => True)) (QcRead (r_far p1)) 0 0 (fun _ => False) := by
  refine Met.ofW (cc := cX1_far) (maxL := 1) (ret := (some .int)) (by decide) rfl ?_
  intro p e s m args below meth c s₁ B hml hv
  obtain ⟨rfl, -⟩ := hv
  have hx := B.exec
  have hb := B.bytes
  have hr := B.returns
  have hts : ∀ w ∈ gBIG, w.before _ s = true := fun w h => atoms_spec (ws := (.code yX1_far cX1_far 1 (some .int) :: gBIG)) B.pre w (List.mem_cons_of_mem _ h)
  have hown : s.vm.findClass "PagedHartModel" = some m.cls := findClass_of_methodNamed B.named
  have hlocks := B.notSynchronized
  have hl := lv_entry ([.int p1]) (n := 1) (Nat.le_of_ble_eq_true rfl)
  rw [lg_entry_eq]
  generalize (lg_sl ([.int p1]) ++ List.replicate (1 - (lg_sl ([.int p1])).length) Slot.unset).toArray = ls at hl ⊢
  have hl : lv_has ls 1 [(0, .int p1)] := hl
  refine lv_iload_n hx hb dX1_far_0 rfl (lv_at hl 0 rfl) ?_
  refine lv_bipush (v := 31) hx hb dX1_far_1 (by decide) ?_
  refine lv_ishr hx hb dX1_far_3 ?_
  refine lv_ldc (v := 1048576) hx hb hown (hts _ mC_1_141) dX1_far_4 ?_
  refine lv_imul hx hb dX1_far_6 ?_
  refine lv_iload_n hx hb dX1_far_7 rfl (lv_at hl 0 rfl) ?_
  refine lv_bipush (v := 12) hx hb dX1_far_8 (by decide) ?_
  refine lv_bipush (v := 19) hx hb dX1_far_10 (by decide) ?_
  refine W.callR (W.runS (As := [.int p1, .int 12, .int 19]) (rest := [.int ((p1 >>> ((31 : Int32) &&& 31)) * (1048576 : Int32))]) ⟨hx, hb, hml, hown, hts⟩ (cr_bits l p1 (12 : Int32) (19 : Int32)) (cwS 3 hts (gS mL_1_46 mS_1_bits mN_1 mB_1_bits) rfl rfl rfl (by decide +kernel) ⟨Nat.le_of_ble_eq_true rfl, Nat.le_of_ble_eq_true rfl⟩) ⟨jblind, fun _ _ _ => ⟨rfl, trivial⟩⟩ rfl rfl hl.1 rfl (lv_room (Nat.le_of_ble_eq_true rfl)) dX1_far_12 ⟨Nat.zero_le _, Nat.zero_le _⟩) ?_
  refine W.eq (g2 := F0 m 15 ls (.int (r_bits p1 (12 : Int32) (19 : Int32)) :: [.int ((p1 >>> ((31 : Int32) &&& 31)) * (1048576 : Int32))])) rfl ?_
  refine lv_topi (fun x1 ex1 => ?_)
  refine lv_sipush (v := 4096) hx hb dX1_far_15 (by decide) ?_
  refine lv_imul hx hb dX1_far_18 ?_
  refine lv_iadd hx hb dX1_far_19 ?_
  refine lv_topi (fun x2 ex2 => ?_)
  refine lv_iload_n hx hb dX1_far_20 rfl (lv_at hl 0 rfl) ?_
  refine lv_bipush (v := 20) hx hb dX1_far_21 (by decide) ?_
  refine lv_bipush (v := 20) hx hb dX1_far_23 (by decide) ?_
  refine W.callR (W.runS (As := [.int p1, .int 20, .int 20]) (rest := [.int x2]) ⟨hx, hb, hml, hown, hts⟩ (cr_bits l p1 (20 : Int32) (20 : Int32)) (cwS 3 hts (gS mL_1_46 mS_1_bits mN_1 mB_1_bits) rfl rfl rfl (by decide +kernel) ⟨Nat.le_of_ble_eq_true rfl, Nat.le_of_ble_eq_true rfl⟩) ⟨jblind, fun _ _ _ => ⟨rfl, trivial⟩⟩ rfl rfl hl.1 rfl (lv_room (Nat.le_of_ble_eq_true rfl)) dX1_far_25 ⟨Nat.zero_le _, Nat.zero_le _⟩) ?_
  refine W.eq (g2 := F0 m 28 ls (.int (r_bits p1 (20 : Int32) (20 : Int32)) :: [.int x2])) rfl ?_
  refine lv_topi (fun x3 ex3 => ?_)
  refine lv_sipush (v := 2048) hx hb dX1_far_28 (by decide) ?_
  refine lv_imul hx hb dX1_far_31 ?_
  refine lv_iadd hx hb dX1_far_32 ?_
  refine lv_iload_n hx hb dX1_far_33 rfl (lv_at hl 0 rfl) ?_
  refine lv_bipush (v := 21) hx hb dX1_far_34 (by decide) ?_
  refine lv_bipush (v := 30) hx hb dX1_far_36 (by decide) ?_
  refine W.callR (W.runS (As := [.int p1, .int 21, .int 30]) (rest := [.int (x2 + (x3 * (2048 : Int32)))]) ⟨hx, hb, hml, hown, hts⟩ (cr_bits l p1 (21 : Int32) (30 : Int32)) (cwS 3 hts (gS mL_1_46 mS_1_bits mN_1 mB_1_bits) rfl rfl rfl (by decide +kernel) ⟨Nat.le_of_ble_eq_true rfl, Nat.le_of_ble_eq_true rfl⟩) ⟨jblind, fun _ _ _ => ⟨rfl, trivial⟩⟩ rfl rfl hl.1 rfl (lv_room (Nat.le_of_ble_eq_true rfl)) dX1_far_38 ⟨Nat.zero_le _, Nat.zero_le _⟩) ?_
  refine W.eq (g2 := F0 m 41 ls (.int (r_bits p1 (21 : Int32) (30 : Int32)) :: [.int (x2 + (x3 * (2048 : Int32)))])) rfl ?_
  refine lv_topi (fun x4 ex4 => ?_)
  refine lv_iconst (v := 2) hx hb dX1_far_41 (by decide) ?_
  refine lv_imul hx hb dX1_far_42 ?_
  refine lv_iadd hx hb dX1_far_43 ?_
  exact W.iret (v := (x2 + (x3 * (2048 : Int32))) + (x4 * (2 : Int32))) hx hb hr (fun t ht hW => ⟨jq (by subst ex4 ex3 ex2 ex1; exact (rfl).symm), ht⟩) (fun q h => by cases h) dX1_far_44

def r_near (p1 : Int32) : Int32 :=
  let x1 : Int32 := r_bits p1 (7 : Int32) (7 : Int32)
  let x2 : Int32 := ((p1 >>> ((31 : Int32) &&& 31)) * (4096 : Int32)) + (x1 * (2048 : Int32))
  let x3 : Int32 := r_bits p1 (25 : Int32) (30 : Int32)
  let x4 : Int32 := r_bits p1 (8 : Int32) (11 : Int32)
  ((x2 + (x3 * (32 : Int32))) + (x4 * (2 : Int32)))
set_option maxHeartbeats 4000000 in
set_option maxRecDepth 100000 in
theorem cr_near (l : Launch) (p1 : Int32) : Met l yX1_near (.code yX1_near cX1_near 1 (some .int) :: gBIG) ({ frames := 2, cells := 0, slots := 0, locals := 42 }) (va_Pc [.int p1] (fun _ => True)) (QcRead (r_near p1)) 0 0 (fun _ => False) := by
  refine Met.ofW (cc := cX1_near) (maxL := 1) (ret := (some .int)) (by decide) rfl ?_
  intro p e s m args below meth c s₁ B hml hv
  obtain ⟨rfl, -⟩ := hv
  have hx := B.exec
  have hb := B.bytes
  have hr := B.returns
  have hts : ∀ w ∈ gBIG, w.before _ s = true := fun w h => atoms_spec (ws := (.code yX1_near cX1_near 1 (some .int) :: gBIG)) B.pre w (List.mem_cons_of_mem _ h)
  have hown : s.vm.findClass "PagedHartModel" = some m.cls := findClass_of_methodNamed B.named
  have hlocks := B.notSynchronized
  have hl := lv_entry ([.int p1]) (n := 1) (Nat.le_of_ble_eq_true rfl)
  rw [lg_entry_eq]
  generalize (lg_sl ([.int p1]) ++ List.replicate (1 - (lg_sl ([.int p1])).length) Slot.unset).toArray = ls at hl ⊢
  have hl : lv_has ls 1 [(0, .int p1)] := hl
  refine lv_iload_n hx hb dX1_near_0 rfl (lv_at hl 0 rfl) ?_
  refine lv_bipush (v := 31) hx hb dX1_near_1 (by decide) ?_
  refine lv_ishr hx hb dX1_near_3 ?_
  refine lv_sipush (v := 4096) hx hb dX1_near_4 (by decide) ?_
  refine lv_imul hx hb dX1_near_7 ?_
  refine lv_iload_n hx hb dX1_near_8 rfl (lv_at hl 0 rfl) ?_
  refine lv_bipush (v := 7) hx hb dX1_near_9 (by decide) ?_
  refine lv_bipush (v := 7) hx hb dX1_near_11 (by decide) ?_
  refine W.callR (W.runS (As := [.int p1, .int 7, .int 7]) (rest := [.int ((p1 >>> ((31 : Int32) &&& 31)) * (4096 : Int32))]) ⟨hx, hb, hml, hown, hts⟩ (cr_bits l p1 (7 : Int32) (7 : Int32)) (cwS 3 hts (gS mL_1_46 mS_1_bits mN_1 mB_1_bits) rfl rfl rfl (by decide +kernel) ⟨Nat.le_of_ble_eq_true rfl, Nat.le_of_ble_eq_true rfl⟩) ⟨jblind, fun _ _ _ => ⟨rfl, trivial⟩⟩ rfl rfl hl.1 rfl (lv_room (Nat.le_of_ble_eq_true rfl)) dX1_near_13 ⟨Nat.zero_le _, Nat.zero_le _⟩) ?_
  refine W.eq (g2 := F0 m 16 ls (.int (r_bits p1 (7 : Int32) (7 : Int32)) :: [.int ((p1 >>> ((31 : Int32) &&& 31)) * (4096 : Int32))])) rfl ?_
  refine lv_topi (fun x1 ex1 => ?_)
  refine lv_sipush (v := 2048) hx hb dX1_near_16 (by decide) ?_
  refine lv_imul hx hb dX1_near_19 ?_
  refine lv_iadd hx hb dX1_near_20 ?_
  refine lv_topi (fun x2 ex2 => ?_)
  refine lv_iload_n hx hb dX1_near_21 rfl (lv_at hl 0 rfl) ?_
  refine lv_bipush (v := 25) hx hb dX1_near_22 (by decide) ?_
  refine lv_bipush (v := 30) hx hb dX1_near_24 (by decide) ?_
  refine W.callR (W.runS (As := [.int p1, .int 25, .int 30]) (rest := [.int x2]) ⟨hx, hb, hml, hown, hts⟩ (cr_bits l p1 (25 : Int32) (30 : Int32)) (cwS 3 hts (gS mL_1_46 mS_1_bits mN_1 mB_1_bits) rfl rfl rfl (by decide +kernel) ⟨Nat.le_of_ble_eq_true rfl, Nat.le_of_ble_eq_true rfl⟩) ⟨jblind, fun _ _ _ => ⟨rfl, trivial⟩⟩ rfl rfl hl.1 rfl (lv_room (Nat.le_of_ble_eq_true rfl)) dX1_near_26 ⟨Nat.zero_le _, Nat.zero_le _⟩) ?_
  refine W.eq (g2 := F0 m 29 ls (.int (r_bits p1 (25 : Int32) (30 : Int32)) :: [.int x2])) rfl ?_
  refine lv_topi (fun x3 ex3 => ?_)
  refine lv_bipush (v := 32) hx hb dX1_near_29 (by decide) ?_
  refine lv_imul hx hb dX1_near_31 ?_
  refine lv_iadd hx hb dX1_near_32 ?_
  refine lv_iload_n hx hb dX1_near_33 rfl (lv_at hl 0 rfl) ?_
  refine lv_bipush (v := 8) hx hb dX1_near_34 (by decide) ?_
  refine lv_bipush (v := 11) hx hb dX1_near_36 (by decide) ?_
  refine W.callR (W.runS (As := [.int p1, .int 8, .int 11]) (rest := [.int (x2 + (x3 * (32 : Int32)))]) ⟨hx, hb, hml, hown, hts⟩ (cr_bits l p1 (8 : Int32) (11 : Int32)) (cwS 3 hts (gS mL_1_46 mS_1_bits mN_1 mB_1_bits) rfl rfl rfl (by decide +kernel) ⟨Nat.le_of_ble_eq_true rfl, Nat.le_of_ble_eq_true rfl⟩) ⟨jblind, fun _ _ _ => ⟨rfl, trivial⟩⟩ rfl rfl hl.1 rfl (lv_room (Nat.le_of_ble_eq_true rfl)) dX1_near_38 ⟨Nat.zero_le _, Nat.zero_le _⟩) ?_
  refine W.eq (g2 := F0 m 41 ls (.int (r_bits p1 (8 : Int32) (11 : Int32)) :: [.int (x2 + (x3 * (32 : Int32)))])) rfl ?_
  refine lv_topi (fun x4 ex4 => ?_)
  refine lv_iconst (v := 2) hx hb dX1_near_41 (by decide) ?_
  refine lv_imul hx hb dX1_near_42 ?_
  refine lv_iadd hx hb dX1_near_43 ?_
  exact W.iret (v := (x2 + (x3 * (32 : Int32))) + (x4 * (2 : Int32))) hx hb hr (fun t ht hW => ⟨jq (by subst ex4 ex3 ex2 ex1; exact (rfl).symm), ht⟩) (fun q h => by cases h) dX1_near_44

def r_power (p1 : Int32) : Int32 :=
  ((1 : Int32) <<< (p1 &&& 31))
set_option maxHeartbeats 4000000 in
set_option maxRecDepth 100000 in
theorem cr_power (l : Launch) (p1 : Int32) : Met l yX1_power (.code yX1_power cX1_power 1 (some .int) :: gBIG) ({ frames := 0, cells := 0, slots := 0, locals := 0 }) (va_Pc [.int p1] (fun _ => True)) (QcRead (r_power p1)) 0 0 (fun _ => False) := by
  refine Met.ofW (cc := cX1_power) (maxL := 1) (ret := (some .int)) (by decide) rfl ?_
  intro p e s m args below meth c s₁ B hml hv
  obtain ⟨rfl, -⟩ := hv
  have hx := B.exec
  have hb := B.bytes
  have hr := B.returns
  have hts : ∀ w ∈ gBIG, w.before _ s = true := fun w h => atoms_spec (ws := (.code yX1_power cX1_power 1 (some .int) :: gBIG)) B.pre w (List.mem_cons_of_mem _ h)
  have hown : s.vm.findClass "PagedHartModel" = some m.cls := findClass_of_methodNamed B.named
  have hlocks := B.notSynchronized
  have hl := lv_entry ([.int p1]) (n := 1) (Nat.le_of_ble_eq_true rfl)
  rw [lg_entry_eq]
  generalize (lg_sl ([.int p1]) ++ List.replicate (1 - (lg_sl ([.int p1])).length) Slot.unset).toArray = ls at hl ⊢
  have hl : lv_has ls 1 [(0, .int p1)] := hl
  refine lv_iconst (v := 1) hx hb dX1_power_0 (by decide) ?_
  refine lv_iload_n hx hb dX1_power_1 rfl (lv_at hl 0 rfl) ?_
  refine lv_ishl hx hb dX1_power_2 ?_
  exact W.iret (v := (1 : Int32) <<< (p1 &&& 31)) hx hb hr (fun t ht hW => ⟨jq (by exact (rfl).symm), ht⟩) (fun q h => by cases h) dX1_power_3

def r_right (p1 : Int32) (p2 : Int32) (p3 : Int32) : Int32 :=
  if p3 = 0 then
    let y2 : Int64 := r_plain p1
    ((y2 >>> (p2.toInt64 &&& 63)).toInt32)
  else
    let y3 : Int64 := p1.toInt64
    ((y3 >>> (p2.toInt64 &&& 63)).toInt32)
set_option maxHeartbeats 4000000 in
set_option maxRecDepth 100000 in
theorem cr_right (l : Launch) (p1 : Int32) (p2 : Int32) (p3 : Int32) : Met l yX1_right (.code yX1_right cX1_right 5 (some .int) :: gBIG) ({ frames := 1, cells := 0, slots := 0, locals := 20 }) (va_Pc [.int p1, .int p2, .int p3] (fun _ => True)) (QcRead (r_right p1 p2 p3)) 0 0 (fun _ => False) := by
  refine Met.ofW (cc := cX1_right) (maxL := 5) (ret := (some .int)) (by decide) rfl ?_
  intro p e s m args below meth c s₁ B hml hv
  obtain ⟨rfl, -⟩ := hv
  have hx := B.exec
  have hb := B.bytes
  have hr := B.returns
  have hts : ∀ w ∈ gBIG, w.before _ s = true := fun w h => atoms_spec (ws := (.code yX1_right cX1_right 5 (some .int) :: gBIG)) B.pre w (List.mem_cons_of_mem _ h)
  have hown : s.vm.findClass "PagedHartModel" = some m.cls := findClass_of_methodNamed B.named
  have hlocks := B.notSynchronized
  have hl := lv_entry ([.int p1, .int p2, .int p3]) (n := 5) (Nat.le_of_ble_eq_true rfl)
  rw [lg_entry_eq]
  generalize (lg_sl ([.int p1, .int p2, .int p3]) ++ List.replicate (5 - (lg_sl ([.int p1, .int p2, .int p3])).length) Slot.unset).toArray = ls at hl ⊢
  have hl : lv_has ls 5 [(0, .int p1), (1, .int p2), (2, .int p3)] := hl
  refine lv_iload_n hx hb dX1_right_0 rfl (lv_at hl 2 rfl) ?_
  refine lv_if_eq (tgt := 9) hx hb dX1_right_1 (by decide) (fun c1 => ?_) (fun c1 => ?_)
  · refine lv_iload_n hx hb dX1_right_9 rfl (lv_at hl 0 rfl) ?_
    refine jcallRl (W.runS (As := [.int p1]) (rest := []) ⟨hx, hb, hml, hown, hts⟩ (cr_plain l p1) (cwS 1 hts (gS mL_1_36 mS_1_plain mN_1 mB_1_plain) rfl rfl rfl (by decide +kernel) ⟨Nat.le_of_ble_eq_true rfl, Nat.le_of_ble_eq_true rfl⟩) ⟨jblind, fun _ _ _ => ⟨rfl, trivial⟩⟩ rfl rfl hl.1 rfl (lv_room (Nat.le_of_ble_eq_true rfl)) dX1_right_10 ⟨Nat.zero_le _, Nat.zero_le _⟩) ?_
    refine lv_topl (fun y2 ey2 => ?_)
    refine lv_lstore_n (lv' := [(3, .long y2), (0, .int p1), (1, .int p2), (2, .int p3)]) hx hb dX1_right_13 rfl hl (by decide) rfl (fun ls hl => ?_)
    refine lv_lload_n hx hb dX1_right_14 rfl (lv_at hl 0 rfl) ?_
    refine lv_iload_n hx hb dX1_right_15 rfl (lv_at hl 2 rfl) ?_
    refine lv_lshr (v := y2 >>> (p2.toInt64 &&& 63)) hx hb dX1_right_16 rfl ?_
    refine lv_l2i (v := (y2 >>> (p2.toInt64 &&& 63)).toInt32) hx hb dX1_right_17 rfl ?_
    exact W.iret (v := (y2 >>> (p2.toInt64 &&& 63)).toInt32) hx hb hr (fun t ht hW => ⟨jq (by subst ey2; exact (((if_pos c1).trans rfl)).symm), ht⟩) (fun q h => by cases h) dX1_right_18
  · refine lv_iload_n hx hb dX1_right_4 rfl (lv_at hl 0 rfl) ?_
    refine lv_i2l (v := p1.toInt64) hx hb dX1_right_5 rfl ?_
    refine lv_goto (tgt := 13) hx hb dX1_right_6 (by decide) ?_
    refine lv_topl (fun y3 ey3 => ?_)
    refine lv_lstore_n (lv' := [(3, .long y3), (0, .int p1), (1, .int p2), (2, .int p3)]) hx hb dX1_right_13 rfl hl (by decide) rfl (fun ls hl => ?_)
    refine lv_lload_n hx hb dX1_right_14 rfl (lv_at hl 0 rfl) ?_
    refine lv_iload_n hx hb dX1_right_15 rfl (lv_at hl 2 rfl) ?_
    refine lv_lshr (v := y3 >>> (p2.toInt64 &&& 63)) hx hb dX1_right_16 rfl ?_
    refine lv_l2i (v := (y3 >>> (p2.toInt64 &&& 63)).toInt32) hx hb dX1_right_17 rfl ?_
    exact W.iret (v := (y3 >>> (p2.toInt64 &&& 63)).toInt32) hx hb hr (fun t ht hW => ⟨jq (by subst ey3; exact (((if_neg c1).trans rfl)).symm), ht⟩) (fun q h => by cases h) dX1_right_18

def r_simple (p1 : Int32) (p2 : Int32) (p3 : Int32) : Int32 :=
  if p1 = 0 then
    (p2 + p3)
  else
    if p1 = 1 then
      (p2 &&& p3)
    else
      if p1 = 2 then
        if p3 ≤ p2 then
          (0 : Int32)
        else
          (1 : Int32)
      else
        if p1 = 3 then
          let y6 : Int64 := r_plain p2
          let y7 : Int64 := r_plain p3
          if 0 ≤ (lg_cmp y6 y7) then
            (0 : Int32)
          else
            (1 : Int32)
        else
          if p1 = 4 then
            (p2 ^^^ p3)
          else
            if p1 = 5 then
              (p2 &&& p3)
            else
              if p1 = 6 then
                (p2 ||| p3)
              else
                (p2 &&& p3)
set_option maxHeartbeats 4000000 in
set_option maxRecDepth 100000 in
theorem cr_simple (l : Launch) (p1 : Int32) (p2 : Int32) (p3 : Int32) : Met l yX1_simple (.code yX1_simple cX1_simple 3 (some .int) :: gBIG) ({ frames := 1, cells := 0, slots := 0, locals := 20 }) (va_Pc [.int p1, .int p2, .int p3] (fun _ => True)) (QcRead (r_simple p1 p2 p3)) 0 0 (fun _ => False) := by
  refine Met.ofW (cc := cX1_simple) (maxL := 3) (ret := (some .int)) (by decide) rfl ?_
  intro p e s m args below meth c s₁ B hml hv
  obtain ⟨rfl, -⟩ := hv
  have hx := B.exec
  have hb := B.bytes
  have hr := B.returns
  have hts : ∀ w ∈ gBIG, w.before _ s = true := fun w h => atoms_spec (ws := (.code yX1_simple cX1_simple 3 (some .int) :: gBIG)) B.pre w (List.mem_cons_of_mem _ h)
  have hown : s.vm.findClass "PagedHartModel" = some m.cls := findClass_of_methodNamed B.named
  have hlocks := B.notSynchronized
  have hl := lv_entry ([.int p1, .int p2, .int p3]) (n := 3) (Nat.le_of_ble_eq_true rfl)
  rw [lg_entry_eq]
  generalize (lg_sl ([.int p1, .int p2, .int p3]) ++ List.replicate (3 - (lg_sl ([.int p1, .int p2, .int p3])).length) Slot.unset).toArray = ls at hl ⊢
  have hl : lv_has ls 3 [(0, .int p1), (1, .int p2), (2, .int p3)] := hl
  refine lv_iload_n hx hb dX1_simple_0 rfl (lv_at hl 0 rfl) ?_
  by_cases c1 : p1 = 0
  · refine lv_tableIn (tgt := 44) (off := 43) hx hb dX1_simple_1 (by rw [c1]; decide) (by rw [c1]; decide) (by rw [c1]; decide) (by decide) ?_
    refine lv_iload_n hx hb dX1_simple_44 rfl (lv_at hl 1 rfl) ?_
    refine lv_iload_n hx hb dX1_simple_45 rfl (lv_at hl 2 rfl) ?_
    refine lv_iadd hx hb dX1_simple_46 ?_
    exact W.iret (v := p2 + p3) hx hb hr (fun t ht hW => ⟨jq (by exact (((if_pos c1).trans rfl)).symm), ht⟩) (fun q h => by cases h) dX1_simple_47
  by_cases c2 : p1 = 1
  · refine lv_tableIn (tgt := 85) (off := 84) hx hb dX1_simple_1 (by rw [c2]; decide) (by rw [c2]; decide) (by rw [c2]; decide) (by decide) ?_
    refine lv_iload_n hx hb dX1_simple_85 rfl (lv_at hl 1 rfl) ?_
    refine lv_iload_n hx hb dX1_simple_86 rfl (lv_at hl 2 rfl) ?_
    refine lv_iand hx hb dX1_simple_87 ?_
    exact W.iret (v := p2 &&& p3) hx hb hr (fun t ht hW => ⟨jq (by exact (((if_neg c1).trans ((if_pos c2).trans rfl))).symm), ht⟩) (fun q h => by cases h) dX1_simple_88
  by_cases c3 : p1 = 2
  · refine lv_tableIn (tgt := 48) (off := 47) hx hb dX1_simple_1 (by rw [c3]; decide) (by rw [c3]; decide) (by rw [c3]; decide) (by decide) ?_
    refine lv_iload_n hx hb dX1_simple_48 rfl (lv_at hl 1 rfl) ?_
    refine lv_iload_n hx hb dX1_simple_49 rfl (lv_at hl 2 rfl) ?_
    refine lv_icmp_ge (tgt := 57) hx hb dX1_simple_50 (by decide) (fun c4 => ?_) (fun c4 => ?_)
    · refine lv_iconst (v := 0) hx hb dX1_simple_57 (by decide) ?_
      exact W.iret (v := 0) hx hb hr (fun t ht hW => ⟨jq (by exact (((if_neg c1).trans ((if_neg c2).trans ((if_pos c3).trans ((if_pos c4).trans rfl))))).symm), ht⟩) (fun q h => by cases h) dX1_simple_58
    · refine lv_iconst (v := 1) hx hb dX1_simple_53 (by decide) ?_
      refine lv_goto (tgt := 58) hx hb dX1_simple_54 (by decide) ?_
      exact W.iret (v := 1) hx hb hr (fun t ht hW => ⟨jq (by exact (((if_neg c1).trans ((if_neg c2).trans ((if_pos c3).trans ((if_neg c4).trans rfl))))).symm), ht⟩) (fun q h => by cases h) dX1_simple_58
  by_cases c5 : p1 = 3
  · refine lv_tableIn (tgt := 59) (off := 58) hx hb dX1_simple_1 (by rw [c5]; decide) (by rw [c5]; decide) (by rw [c5]; decide) (by decide) ?_
    refine lv_iload_n hx hb dX1_simple_59 rfl (lv_at hl 1 rfl) ?_
    refine jcallRl (W.runS (As := [.int p2]) (rest := []) ⟨hx, hb, hml, hown, hts⟩ (cr_plain l p2) (cwS 1 hts (gS mL_1_36 mS_1_plain mN_1 mB_1_plain) rfl rfl rfl (by decide +kernel) ⟨Nat.le_of_ble_eq_true rfl, Nat.le_of_ble_eq_true rfl⟩) ⟨jblind, fun _ _ _ => ⟨rfl, trivial⟩⟩ rfl rfl hl.1 rfl (lv_room (Nat.le_of_ble_eq_true rfl)) dX1_simple_60 ⟨Nat.zero_le _, Nat.zero_le _⟩) ?_
    refine lv_topl (fun y6 ey6 => ?_)
    refine lv_iload_n hx hb dX1_simple_63 rfl (lv_at hl 2 rfl) ?_
    refine jcallRl (W.runS (As := [.int p3]) (rest := [.long y6]) ⟨hx, hb, hml, hown, hts⟩ (cr_plain l p3) (cwS 1 hts (gS mL_1_36 mS_1_plain mN_1 mB_1_plain) rfl rfl rfl (by decide +kernel) ⟨Nat.le_of_ble_eq_true rfl, Nat.le_of_ble_eq_true rfl⟩) ⟨jblind, fun _ _ _ => ⟨rfl, trivial⟩⟩ rfl rfl hl.1 rfl (lv_room (Nat.le_of_ble_eq_true rfl)) dX1_simple_64 ⟨Nat.zero_le _, Nat.zero_le _⟩) ?_
    refine lv_topl (fun y7 ey7 => ?_)
    refine W.lcmp hx hb dX1_simple_67 ?_
    refine lv_if_ge (tgt := 75) hx hb dX1_simple_68 (by decide) (fun c8 => ?_) (fun c8 => ?_)
    · refine lv_iconst (v := 0) hx hb dX1_simple_75 (by decide) ?_
      exact W.iret (v := 0) hx hb hr (fun t ht hW => ⟨jq (by subst ey7 ey6; exact (((if_neg c1).trans ((if_neg c2).trans ((if_neg c3).trans ((if_pos c5).trans ((if_pos c8).trans rfl)))))).symm), ht⟩) (fun q h => by cases h) dX1_simple_76
    · refine lv_iconst (v := 1) hx hb dX1_simple_71 (by decide) ?_
      refine lv_goto (tgt := 76) hx hb dX1_simple_72 (by decide) ?_
      exact W.iret (v := 1) hx hb hr (fun t ht hW => ⟨jq (by subst ey7 ey6; exact (((if_neg c1).trans ((if_neg c2).trans ((if_neg c3).trans ((if_pos c5).trans ((if_neg c8).trans rfl)))))).symm), ht⟩) (fun q h => by cases h) dX1_simple_76
  by_cases c9 : p1 = 4
  · refine lv_tableIn (tgt := 77) (off := 76) hx hb dX1_simple_1 (by rw [c9]; decide) (by rw [c9]; decide) (by rw [c9]; decide) (by decide) ?_
    refine lv_iload_n hx hb dX1_simple_77 rfl (lv_at hl 1 rfl) ?_
    refine lv_iload_n hx hb dX1_simple_78 rfl (lv_at hl 2 rfl) ?_
    refine lv_ixor hx hb dX1_simple_79 ?_
    exact W.iret (v := p2 ^^^ p3) hx hb hr (fun t ht hW => ⟨jq (by exact (((if_neg c1).trans ((if_neg c2).trans ((if_neg c3).trans ((if_neg c5).trans ((if_pos c9).trans rfl)))))).symm), ht⟩) (fun q h => by cases h) dX1_simple_80
  by_cases c10 : p1 = 5
  · refine lv_tableIn (tgt := 85) (off := 84) hx hb dX1_simple_1 (by rw [c10]; decide) (by rw [c10]; decide) (by rw [c10]; decide) (by decide) ?_
    refine lv_iload_n hx hb dX1_simple_85 rfl (lv_at hl 1 rfl) ?_
    refine lv_iload_n hx hb dX1_simple_86 rfl (lv_at hl 2 rfl) ?_
    refine lv_iand hx hb dX1_simple_87 ?_
    exact W.iret (v := p2 &&& p3) hx hb hr (fun t ht hW => ⟨jq (by exact (((if_neg c1).trans ((if_neg c2).trans ((if_neg c3).trans ((if_neg c5).trans ((if_neg c9).trans ((if_pos c10).trans rfl))))))).symm), ht⟩) (fun q h => by cases h) dX1_simple_88
  by_cases c11 : p1 = 6
  · refine lv_tableIn (tgt := 81) (off := 80) hx hb dX1_simple_1 (by rw [c11]; decide) (by rw [c11]; decide) (by rw [c11]; decide) (by decide) ?_
    refine lv_iload_n hx hb dX1_simple_81 rfl (lv_at hl 1 rfl) ?_
    refine lv_iload_n hx hb dX1_simple_82 rfl (lv_at hl 2 rfl) ?_
    refine lv_ior hx hb dX1_simple_83 ?_
    exact W.iret (v := p2 ||| p3) hx hb hr (fun t ht hW => ⟨jq (by exact (((if_neg c1).trans ((if_neg c2).trans ((if_neg c3).trans ((if_neg c5).trans ((if_neg c9).trans ((if_neg c10).trans ((if_pos c11).trans rfl)))))))).symm), ht⟩) (fun q h => by cases h) dX1_simple_84
  refine lv_tableOut (tgt := 85) hx hb dX1_simple_1 (by have := lv_neT (k := 0) (a := 0) c1 (by decide); have := lv_neT (k := 1) (a := 1) c2 (by decide); have := lv_neT (k := 2) (a := 2) c3 (by decide); have := lv_neT (k := 3) (a := 3) c5 (by decide); have := lv_neT (k := 4) (a := 4) c9 (by decide); have := lv_neT (k := 5) (a := 5) c10 (by decide); have := lv_neT (k := 6) (a := 6) c11 (by decide); omega) (by decide) ?_
  refine lv_iload_n hx hb dX1_simple_85 rfl (lv_at hl 1 rfl) ?_
  refine lv_iload_n hx hb dX1_simple_86 rfl (lv_at hl 2 rfl) ?_
  refine lv_iand hx hb dX1_simple_87 ?_
  exact W.iret (v := p2 &&& p3) hx hb hr (fun t ht hW => ⟨jq (by exact (((if_neg c1).trans ((if_neg c2).trans ((if_neg c3).trans ((if_neg c5).trans ((if_neg c9).trans ((if_neg c10).trans ((if_neg c11).trans rfl)))))))).symm), ht⟩) (fun q h => by cases h) dX1_simple_88

def r_product (p1 : Int32) (p2 : Int32) (p3 : Int32) : Int32 :=
  if p1 = 0 then
    (p2 * p3)
  else
    let y2 : Int64 := r_plain p2
    let y3 : Int64 := r_plain p3
    let y4 : Int64 := (y2 &&& (65535 : Int64)) * (y3 &&& (65535 : Int64))
    let y5 : Int64 := ((y2 >>> ((16 : Int32).toInt64 &&& 63)) * (y3 &&& (65535 : Int64))) + (y4 >>> ((16 : Int32).toInt64 &&& 63))
    let y6 : Int64 := ((y2 &&& (65535 : Int64)) * (y3 >>> ((16 : Int32).toInt64 &&& 63))) + (y5 &&& (65535 : Int64))
    let y7 : Int64 := (y2 >>> ((16 : Int32).toInt64 &&& 63)) * (y3 >>> ((16 : Int32).toInt64 &&& 63))
    let y8 : Int64 := (y7 + (y5 >>> ((16 : Int32).toInt64 &&& 63))) + (y6 >>> ((16 : Int32).toInt64 &&& 63))
    let x9 : Int32 := y8.toInt32
    if (3 : Int32) ≤ p1 then
      if p1 = (1 : Int32) then
        if 0 ≤ p3 then
          x9
        else
          (x9 - p2)
      else
        x9
    else
      if 0 ≤ p2 then
        if p1 = (1 : Int32) then
          if 0 ≤ p3 then
            x9
          else
            (x9 - p2)
        else
          x9
      else
        let x16 : Int32 := x9 - p3
        if p1 = (1 : Int32) then
          if 0 ≤ p3 then
            x16
          else
            (x16 - p2)
        else
          x16
set_option maxHeartbeats 4000000 in
set_option maxRecDepth 100000 in
theorem cr_product (l : Launch) (p1 : Int32) (p2 : Int32) (p3 : Int32) : Met l yX1_product (.code yX1_product cX1_product 14 (some .int) :: gBIG) ({ frames := 1, cells := 0, slots := 0, locals := 20 }) (va_Pc [.int p1, .int p2, .int p3] (fun _ => True)) (QcRead (r_product p1 p2 p3)) 0 0 (fun _ => False) := by
  refine Met.ofW (cc := cX1_product) (maxL := 14) (ret := (some .int)) (by decide) rfl ?_
  intro p e s m args below meth c s₁ B hml hv
  obtain ⟨rfl, -⟩ := hv
  have hx := B.exec
  have hb := B.bytes
  have hr := B.returns
  have hts : ∀ w ∈ gBIG, w.before _ s = true := fun w h => atoms_spec (ws := (.code yX1_product cX1_product 14 (some .int) :: gBIG)) B.pre w (List.mem_cons_of_mem _ h)
  have hown : s.vm.findClass "PagedHartModel" = some m.cls := findClass_of_methodNamed B.named
  have hlocks := B.notSynchronized
  have hl := lv_entry ([.int p1, .int p2, .int p3]) (n := 14) (Nat.le_of_ble_eq_true rfl)
  rw [lg_entry_eq]
  generalize (lg_sl ([.int p1, .int p2, .int p3]) ++ List.replicate (14 - (lg_sl ([.int p1, .int p2, .int p3])).length) Slot.unset).toArray = ls at hl ⊢
  have hl : lv_has ls 14 [(0, .int p1), (1, .int p2), (2, .int p3)] := hl
  refine lv_iload_n hx hb dX1_product_0 rfl (lv_at hl 0 rfl) ?_
  refine lv_if_ne (tgt := 8) hx hb dX1_product_1 (by decide) (fun c1 => ?_) (fun c1 => ?_)
  · refine lv_iload_n hx hb dX1_product_8 rfl (lv_at hl 1 rfl) ?_
    refine jcallRl (W.runS (As := [.int p2]) (rest := []) ⟨hx, hb, hml, hown, hts⟩ (cr_plain l p2) (cwS 1 hts (gS mL_1_36 mS_1_plain mN_1 mB_1_plain) rfl rfl rfl (by decide +kernel) ⟨Nat.le_of_ble_eq_true rfl, Nat.le_of_ble_eq_true rfl⟩) ⟨jblind, fun _ _ _ => ⟨rfl, trivial⟩⟩ rfl rfl hl.1 rfl (lv_room (Nat.le_of_ble_eq_true rfl)) dX1_product_9 ⟨Nat.zero_le _, Nat.zero_le _⟩) ?_
    refine lv_topl (fun y2 ey2 => ?_)
    refine lv_lstore_n (lv' := [(3, .long y2), (0, .int p1), (1, .int p2), (2, .int p3)]) hx hb dX1_product_12 rfl hl (by decide) rfl (fun ls hl => ?_)
    refine lv_iload_n hx hb dX1_product_13 rfl (lv_at hl 3 rfl) ?_
    refine jcallRl (W.runS (As := [.int p3]) (rest := []) ⟨hx, hb, hml, hown, hts⟩ (cr_plain l p3) (cwS 1 hts (gS mL_1_36 mS_1_plain mN_1 mB_1_plain) rfl rfl rfl (by decide +kernel) ⟨Nat.le_of_ble_eq_true rfl, Nat.le_of_ble_eq_true rfl⟩) ⟨jblind, fun _ _ _ => ⟨rfl, trivial⟩⟩ rfl rfl hl.1 rfl (lv_room (Nat.le_of_ble_eq_true rfl)) dX1_product_14 ⟨Nat.zero_le _, Nat.zero_le _⟩) ?_
    refine lv_topl (fun y3 ey3 => ?_)
    refine lv_lstore (lv' := [(5, .long y3), (3, .long y2), (0, .int p1), (1, .int p2), (2, .int p3)]) hx hb dX1_product_17 hl (by decide) rfl (fun ls hl => ?_)
    refine lv_lload_n hx hb dX1_product_19 rfl (lv_at hl 1 rfl) ?_
    refine lv_ldc2 (v := 65535) hx hb hown (hts _ mC_1_161) dX1_product_20 ?_
    refine lv_land hx hb dX1_product_23 ?_
    refine lv_lload hx hb dX1_product_24 (lv_at hl 0 rfl) ?_
    refine lv_ldc2 (v := 65535) hx hb hown (hts _ mC_1_161) dX1_product_26 ?_
    refine lv_land hx hb dX1_product_29 ?_
    refine lv_lmul hx hb dX1_product_30 ?_
    refine lv_topl (fun y4 ey4 => ?_)
    refine lv_lstore (lv' := [(7, .long y4), (5, .long y3), (3, .long y2), (0, .int p1), (1, .int p2), (2, .int p3)]) hx hb dX1_product_31 hl (by decide) rfl (fun ls hl => ?_)
    refine lv_lload_n hx hb dX1_product_33 rfl (lv_at hl 2 rfl) ?_
    refine lv_bipush (v := 16) hx hb dX1_product_34 (by decide) ?_
    refine lv_lshr (v := y2 >>> ((16 : Int32).toInt64 &&& 63)) hx hb dX1_product_36 rfl ?_
    refine lv_lload hx hb dX1_product_37 (lv_at hl 1 rfl) ?_
    refine lv_ldc2 (v := 65535) hx hb hown (hts _ mC_1_161) dX1_product_39 ?_
    refine lv_land hx hb dX1_product_42 ?_
    refine lv_lmul hx hb dX1_product_43 ?_
    refine lv_lload hx hb dX1_product_44 (lv_at hl 0 rfl) ?_
    refine lv_bipush (v := 16) hx hb dX1_product_46 (by decide) ?_
    refine lv_lshr (v := y4 >>> ((16 : Int32).toInt64 &&& 63)) hx hb dX1_product_48 rfl ?_
    refine lv_ladd hx hb dX1_product_49 ?_
    refine lv_topl (fun y5 ey5 => ?_)
    refine lv_lstore (lv' := [(9, .long y5), (7, .long y4), (5, .long y3), (3, .long y2), (0, .int p1), (1, .int p2), (2, .int p3)]) hx hb dX1_product_50 hl (by decide) rfl (fun ls hl => ?_)
    refine lv_lload_n hx hb dX1_product_52 rfl (lv_at hl 3 rfl) ?_
    refine lv_ldc2 (v := 65535) hx hb hown (hts _ mC_1_161) dX1_product_53 ?_
    refine lv_land hx hb dX1_product_56 ?_
    refine lv_lload hx hb dX1_product_57 (lv_at hl 2 rfl) ?_
    refine lv_bipush (v := 16) hx hb dX1_product_59 (by decide) ?_
    refine lv_lshr (v := y3 >>> ((16 : Int32).toInt64 &&& 63)) hx hb dX1_product_61 rfl ?_
    refine lv_lmul hx hb dX1_product_62 ?_
    refine lv_lload hx hb dX1_product_63 (lv_at hl 0 rfl) ?_
    refine lv_ldc2 (v := 65535) hx hb hown (hts _ mC_1_161) dX1_product_65 ?_
    refine lv_land hx hb dX1_product_68 ?_
    refine lv_ladd hx hb dX1_product_69 ?_
    refine lv_topl (fun y6 ey6 => ?_)
    refine lv_lstore (lv' := [(11, .long y6), (9, .long y5), (7, .long y4), (5, .long y3), (3, .long y2), (0, .int p1), (1, .int p2), (2, .int p3)]) hx hb dX1_product_70 hl (by decide) rfl (fun ls hl => ?_)
    refine lv_lload_n hx hb dX1_product_72 rfl (lv_at hl 4 rfl) ?_
    refine lv_bipush (v := 16) hx hb dX1_product_73 (by decide) ?_
    refine lv_lshr (v := y2 >>> ((16 : Int32).toInt64 &&& 63)) hx hb dX1_product_75 rfl ?_
    refine lv_lload hx hb dX1_product_76 (lv_at hl 3 rfl) ?_
    refine lv_bipush (v := 16) hx hb dX1_product_78 (by decide) ?_
    refine lv_lshr (v := y3 >>> ((16 : Int32).toInt64 &&& 63)) hx hb dX1_product_80 rfl ?_
    refine lv_lmul hx hb dX1_product_81 ?_
    refine lv_topl (fun y7 ey7 => ?_)
    refine lv_lload hx hb dX1_product_82 (lv_at hl 1 rfl) ?_
    refine lv_bipush (v := 16) hx hb dX1_product_84 (by decide) ?_
    refine lv_lshr (v := y5 >>> ((16 : Int32).toInt64 &&& 63)) hx hb dX1_product_86 rfl ?_
    refine lv_ladd hx hb dX1_product_87 ?_
    refine lv_lload hx hb dX1_product_88 (lv_at hl 0 rfl) ?_
    refine lv_bipush (v := 16) hx hb dX1_product_90 (by decide) ?_
    refine lv_lshr (v := y6 >>> ((16 : Int32).toInt64 &&& 63)) hx hb dX1_product_92 rfl ?_
    refine lv_ladd hx hb dX1_product_93 ?_
    refine lv_topl (fun y8 ey8 => ?_)
    refine lv_l2i (v := y8.toInt32) hx hb dX1_product_94 rfl ?_
    refine lv_topi (fun x9 ex9 => ?_)
    refine lv_istore (lv' := [(13, .int x9), (11, .long y6), (9, .long y5), (7, .long y4), (5, .long y3), (3, .long y2), (0, .int p1), (1, .int p2), (2, .int p3)]) hx hb dX1_product_95 hl (by decide) rfl (fun ls hl => ?_)
    refine lv_iload_n hx hb dX1_product_97 rfl (lv_at hl 6 rfl) ?_
    refine lv_iconst (v := 3) hx hb dX1_product_98 (by decide) ?_
    refine lv_icmp_ge (tgt := 113) hx hb dX1_product_99 (by decide) (fun c10 => ?_) (fun c10 => ?_)
    · refine lv_iload hx hb dX1_product_113 (lv_at hl 0 rfl) ?_
      refine lv_istore (lv' := [(13, .int x9), (11, .long y6), (9, .long y5), (7, .long y4), (5, .long y3), (3, .long y2), (0, .int p1), (1, .int p2), (2, .int p3)]) hx hb dX1_product_115 hl (by decide) rfl (fun ls hl => ?_)
      refine lv_iload_n hx hb dX1_product_117 rfl (lv_at hl 6 rfl) ?_
      refine lv_iconst (v := 1) hx hb dX1_product_118 (by decide) ?_
      refine lv_icmp_ne (tgt := 133) hx hb dX1_product_119 (by decide) (fun c11 => ?_) (fun c11 => ?_)
      · refine lv_iload hx hb dX1_product_133 (lv_at hl 0 rfl) ?_
        exact W.iret (v := x9) hx hb hr (fun t ht hW => ⟨jq (by subst ex9 ey8 ey7 ey6 ey5 ey4 ey3 ey2; exact (((if_neg c1).trans ((if_pos c10).trans ((if_neg c11).trans rfl)))).symm), ht⟩) (fun q h => by cases h) dX1_product_135
      · refine lv_iload_n hx hb dX1_product_122 rfl (lv_at hl 8 rfl) ?_
        refine lv_if_ge (tgt := 133) hx hb dX1_product_123 (by decide) (fun c12 => ?_) (fun c12 => ?_)
        · refine lv_iload hx hb dX1_product_133 (lv_at hl 0 rfl) ?_
          exact W.iret (v := x9) hx hb hr (fun t ht hW => ⟨jq (by subst ex9 ey8 ey7 ey6 ey5 ey4 ey3 ey2; exact (((if_neg c1).trans ((if_pos c10).trans ((if_pos c11).trans ((if_pos c12).trans rfl))))).symm), ht⟩) (fun q h => by cases h) dX1_product_135
        · refine lv_iload hx hb dX1_product_126 (lv_at hl 0 rfl) ?_
          refine lv_iload_n hx hb dX1_product_128 rfl (lv_at hl 7 rfl) ?_
          refine lv_isub hx hb dX1_product_129 ?_
          refine lv_goto (tgt := 135) hx hb dX1_product_130 (by decide) ?_
          exact W.iret (v := x9 - p2) hx hb hr (fun t ht hW => ⟨jq (by subst ex9 ey8 ey7 ey6 ey5 ey4 ey3 ey2; exact (((if_neg c1).trans ((if_pos c10).trans ((if_pos c11).trans ((if_neg c12).trans rfl))))).symm), ht⟩) (fun q h => by cases h) dX1_product_135
    · refine lv_iload_n hx hb dX1_product_102 rfl (lv_at hl 7 rfl) ?_
      refine lv_if_ge (tgt := 113) hx hb dX1_product_103 (by decide) (fun c13 => ?_) (fun c13 => ?_)
      · refine lv_iload hx hb dX1_product_113 (lv_at hl 0 rfl) ?_
        refine lv_istore (lv' := [(13, .int x9), (11, .long y6), (9, .long y5), (7, .long y4), (5, .long y3), (3, .long y2), (0, .int p1), (1, .int p2), (2, .int p3)]) hx hb dX1_product_115 hl (by decide) rfl (fun ls hl => ?_)
        refine lv_iload_n hx hb dX1_product_117 rfl (lv_at hl 6 rfl) ?_
        refine lv_iconst (v := 1) hx hb dX1_product_118 (by decide) ?_
        refine lv_icmp_ne (tgt := 133) hx hb dX1_product_119 (by decide) (fun c14 => ?_) (fun c14 => ?_)
        · refine lv_iload hx hb dX1_product_133 (lv_at hl 0 rfl) ?_
          exact W.iret (v := x9) hx hb hr (fun t ht hW => ⟨jq (by subst ex9 ey8 ey7 ey6 ey5 ey4 ey3 ey2; exact (((if_neg c1).trans ((if_neg c10).trans ((if_pos c13).trans ((if_neg c14).trans rfl))))).symm), ht⟩) (fun q h => by cases h) dX1_product_135
        · refine lv_iload_n hx hb dX1_product_122 rfl (lv_at hl 8 rfl) ?_
          refine lv_if_ge (tgt := 133) hx hb dX1_product_123 (by decide) (fun c15 => ?_) (fun c15 => ?_)
          · refine lv_iload hx hb dX1_product_133 (lv_at hl 0 rfl) ?_
            exact W.iret (v := x9) hx hb hr (fun t ht hW => ⟨jq (by subst ex9 ey8 ey7 ey6 ey5 ey4 ey3 ey2; exact (((if_neg c1).trans ((if_neg c10).trans ((if_pos c13).trans ((if_pos c14).trans ((if_pos c15).trans rfl)))))).symm), ht⟩) (fun q h => by cases h) dX1_product_135
          · refine lv_iload hx hb dX1_product_126 (lv_at hl 0 rfl) ?_
            refine lv_iload_n hx hb dX1_product_128 rfl (lv_at hl 7 rfl) ?_
            refine lv_isub hx hb dX1_product_129 ?_
            refine lv_goto (tgt := 135) hx hb dX1_product_130 (by decide) ?_
            exact W.iret (v := x9 - p2) hx hb hr (fun t ht hW => ⟨jq (by subst ex9 ey8 ey7 ey6 ey5 ey4 ey3 ey2; exact (((if_neg c1).trans ((if_neg c10).trans ((if_pos c13).trans ((if_pos c14).trans ((if_neg c15).trans rfl)))))).symm), ht⟩) (fun q h => by cases h) dX1_product_135
      · refine lv_iload hx hb dX1_product_106 (lv_at hl 0 rfl) ?_
        refine lv_iload_n hx hb dX1_product_108 rfl (lv_at hl 8 rfl) ?_
        refine lv_isub hx hb dX1_product_109 ?_
        refine lv_goto (tgt := 115) hx hb dX1_product_110 (by decide) ?_
        refine lv_topi (fun x16 ex16 => ?_)
        refine lv_istore (lv' := [(13, .int x16), (11, .long y6), (9, .long y5), (7, .long y4), (5, .long y3), (3, .long y2), (0, .int p1), (1, .int p2), (2, .int p3)]) hx hb dX1_product_115 hl (by decide) rfl (fun ls hl => ?_)
        refine lv_iload_n hx hb dX1_product_117 rfl (lv_at hl 6 rfl) ?_
        refine lv_iconst (v := 1) hx hb dX1_product_118 (by decide) ?_
        refine lv_icmp_ne (tgt := 133) hx hb dX1_product_119 (by decide) (fun c17 => ?_) (fun c17 => ?_)
        · refine lv_iload hx hb dX1_product_133 (lv_at hl 0 rfl) ?_
          exact W.iret (v := x16) hx hb hr (fun t ht hW => ⟨jq (by subst ex16 ex9 ey8 ey7 ey6 ey5 ey4 ey3 ey2; exact (((if_neg c1).trans ((if_neg c10).trans ((if_neg c13).trans ((if_neg c17).trans rfl))))).symm), ht⟩) (fun q h => by cases h) dX1_product_135
        · refine lv_iload_n hx hb dX1_product_122 rfl (lv_at hl 8 rfl) ?_
          refine lv_if_ge (tgt := 133) hx hb dX1_product_123 (by decide) (fun c18 => ?_) (fun c18 => ?_)
          · refine lv_iload hx hb dX1_product_133 (lv_at hl 0 rfl) ?_
            exact W.iret (v := x16) hx hb hr (fun t ht hW => ⟨jq (by subst ex16 ex9 ey8 ey7 ey6 ey5 ey4 ey3 ey2; exact (((if_neg c1).trans ((if_neg c10).trans ((if_neg c13).trans ((if_pos c17).trans ((if_pos c18).trans rfl)))))).symm), ht⟩) (fun q h => by cases h) dX1_product_135
          · refine lv_iload hx hb dX1_product_126 (lv_at hl 0 rfl) ?_
            refine lv_iload_n hx hb dX1_product_128 rfl (lv_at hl 7 rfl) ?_
            refine lv_isub hx hb dX1_product_129 ?_
            refine lv_goto (tgt := 135) hx hb dX1_product_130 (by decide) ?_
            exact W.iret (v := x16 - p2) hx hb hr (fun t ht hW => ⟨jq (by subst ex16 ex9 ey8 ey7 ey6 ey5 ey4 ey3 ey2; exact (((if_neg c1).trans ((if_neg c10).trans ((if_neg c13).trans ((if_pos c17).trans ((if_neg c18).trans rfl)))))).symm), ht⟩) (fun q h => by cases h) dX1_product_135
  · refine lv_iload_n hx hb dX1_product_4 rfl (lv_at hl 1 rfl) ?_
    refine lv_iload_n hx hb dX1_product_5 rfl (lv_at hl 2 rfl) ?_
    refine lv_imul hx hb dX1_product_6 ?_
    exact W.iret (v := p2 * p3) hx hb hr (fun t ht hW => ⟨jq (by exact (((if_pos c1).trans rfl)).symm), ht⟩) (fun q h => by cases h) dX1_product_7

def r_quotient (p1 : Int32) (p2 : Int32) (p3 : Int32) : Int32 :=
  if (p1 - p1 / (2 : Int32) * (2 : Int32)) = 0 then
    let y10 : Int64 := p2.toInt64
    let y12 : Int64 := p3.toInt64
    if (lg_cmp y12 (0 : Int64)) = 0 then
      if (6 : Int32) ≤ p1 then
        p2
      else
        ((-1) : Int32)
    else
      if (6 : Int32) ≤ p1 then
        ((y10 - y10 / y12 * y12).toInt32)
      else
        ((y10 / y12).toInt32)
  else
    let y3 : Int64 := r_plain p2
    let y5 : Int64 := r_plain p3
    if (lg_cmp y5 (0 : Int64)) = 0 then
      if (6 : Int32) ≤ p1 then
        p2
      else
        ((-1) : Int32)
    else
      if (6 : Int32) ≤ p1 then
        ((y3 - y3 / y5 * y5).toInt32)
      else
        ((y3 / y5).toInt32)
set_option maxHeartbeats 4000000 in
set_option maxRecDepth 100000 in
theorem cr_quotient (l : Launch) (p1 : Int32) (p2 : Int32) (p3 : Int32) : Met l yX1_quotient (.code yX1_quotient cX1_quotient 8 (some .int) :: gBIG) ({ frames := 1, cells := 0, slots := 0, locals := 20 }) (va_Pc [.int p1, .int p2, .int p3] (fun _ => True)) (QcRead (r_quotient p1 p2 p3)) 0 0 (fun _ => False) := by
  refine Met.ofW (cc := cX1_quotient) (maxL := 8) (ret := (some .int)) (by decide) rfl ?_
  intro p e s m args below meth c s₁ B hml hv
  obtain ⟨rfl, -⟩ := hv
  have hx := B.exec
  have hb := B.bytes
  have hr := B.returns
  have hts : ∀ w ∈ gBIG, w.before _ s = true := fun w h => atoms_spec (ws := (.code yX1_quotient cX1_quotient 8 (some .int) :: gBIG)) B.pre w (List.mem_cons_of_mem _ h)
  have hown : s.vm.findClass "PagedHartModel" = some m.cls := findClass_of_methodNamed B.named
  have hlocks := B.notSynchronized
  have hl := lv_entry ([.int p1, .int p2, .int p3]) (n := 8) (Nat.le_of_ble_eq_true rfl)
  rw [lg_entry_eq]
  generalize (lg_sl ([.int p1, .int p2, .int p3]) ++ List.replicate (8 - (lg_sl ([.int p1, .int p2, .int p3])).length) Slot.unset).toArray = ls at hl ⊢
  have hl : lv_has ls 8 [(0, .int p1), (1, .int p2), (2, .int p3)] := hl
  refine lv_iload_n hx hb dX1_quotient_0 rfl (lv_at hl 0 rfl) ?_
  refine lv_iconst (v := 2) hx hb dX1_quotient_1 (by decide) ?_
  refine lv_irem hx hb dX1_quotient_2 (by decide) ?_
  refine lv_if_ne (tgt := 10) hx hb dX1_quotient_3 (by decide) (fun c1 => ?_) (fun c1 => ?_)
  · refine lv_iconst (v := 0) hx hb dX1_quotient_10 (by decide) ?_
    refine lv_istore_n (lv' := [(3, .int 0), (0, .int p1), (1, .int p2), (2, .int p3)]) hx hb dX1_quotient_11 rfl hl (by decide) rfl (fun ls hl => ?_)
    refine lv_iload_n hx hb dX1_quotient_12 rfl (lv_at hl 0 rfl) ?_
    refine lv_if_eq (tgt := 21) hx hb dX1_quotient_13 (by decide) (fun c2 => ?_) (fun c2 => ?_)
    · refine lv_iload_n hx hb dX1_quotient_21 rfl (lv_at hl 2 rfl) ?_
      refine jcallRl (W.runS (As := [.int p2]) (rest := []) ⟨hx, hb, hml, hown, hts⟩ (cr_plain l p2) (cwS 1 hts (gS mL_1_36 mS_1_plain mN_1 mB_1_plain) rfl rfl rfl (by decide +kernel) ⟨Nat.le_of_ble_eq_true rfl, Nat.le_of_ble_eq_true rfl⟩) ⟨jblind, fun _ _ _ => ⟨rfl, trivial⟩⟩ rfl rfl hl.1 rfl (lv_room (Nat.le_of_ble_eq_true rfl)) dX1_quotient_22 ⟨Nat.zero_le _, Nat.zero_le _⟩) ?_
      refine lv_topl (fun y3 ey3 => ?_)
      refine lv_lstore (lv' := [(4, .long y3), (3, .int 0), (0, .int p1), (1, .int p2), (2, .int p3)]) hx hb dX1_quotient_25 hl (by decide) rfl (fun ls hl => ?_)
      refine lv_iload_n hx hb dX1_quotient_27 rfl (lv_at hl 1 rfl) ?_
      refine lv_if_eq (tgt := 36) hx hb dX1_quotient_28 (by decide) (fun c4 => ?_) (fun c4 => ?_)
      · refine lv_iload_n hx hb dX1_quotient_36 rfl (lv_at hl 4 rfl) ?_
        refine jcallRl (W.runS (As := [.int p3]) (rest := []) ⟨hx, hb, hml, hown, hts⟩ (cr_plain l p3) (cwS 1 hts (gS mL_1_36 mS_1_plain mN_1 mB_1_plain) rfl rfl rfl (by decide +kernel) ⟨Nat.le_of_ble_eq_true rfl, Nat.le_of_ble_eq_true rfl⟩) ⟨jblind, fun _ _ _ => ⟨rfl, trivial⟩⟩ rfl rfl hl.1 rfl (lv_room (Nat.le_of_ble_eq_true rfl)) dX1_quotient_37 ⟨Nat.zero_le _, Nat.zero_le _⟩) ?_
        refine lv_topl (fun y5 ey5 => ?_)
        refine lv_lstore (lv' := [(6, .long y5), (4, .long y3), (3, .int 0), (0, .int p1), (1, .int p2), (2, .int p3)]) hx hb dX1_quotient_40 hl (by decide) rfl (fun ls hl => ?_)
        refine lv_lload hx hb dX1_quotient_42 (lv_at hl 0 rfl) ?_
        refine lv_lconst (v := 0) hx hb dX1_quotient_44 (by decide) ?_
        refine W.lcmp hx hb dX1_quotient_45 ?_
        refine lv_if_ne (tgt := 61) hx hb dX1_quotient_46 (by decide) (fun c6 => ?_) (fun c6 => ?_)
        · refine lv_iload_n hx hb dX1_quotient_61 rfl (lv_at hl 3 rfl) ?_
          refine lv_bipush (v := 6) hx hb dX1_quotient_62 (by decide) ?_
          refine lv_icmp_ge (tgt := 75) hx hb dX1_quotient_64 (by decide) (fun c7 => ?_) (fun c7 => ?_)
          · refine lv_lload hx hb dX1_quotient_75 (lv_at hl 1 rfl) ?_
            refine lv_lload hx hb dX1_quotient_77 (lv_at hl 0 rfl) ?_
            refine lv_lrem hx hb dX1_quotient_79 (r_cmp0 c6) ?_
            refine lv_l2i (v := (y3 - y3 / y5 * y5).toInt32) hx hb dX1_quotient_80 rfl ?_
            exact W.iret (v := (y3 - y3 / y5 * y5).toInt32) hx hb hr (fun t ht hW => ⟨jq (by subst ey5 ey3; exact (((if_neg c1).trans ((if_neg c6).trans ((if_pos c7).trans rfl)))).symm), ht⟩) (fun q h => by cases h) dX1_quotient_81
          · refine lv_lload hx hb dX1_quotient_67 (lv_at hl 1 rfl) ?_
            refine lv_lload hx hb dX1_quotient_69 (lv_at hl 0 rfl) ?_
            refine lv_ldiv hx hb dX1_quotient_71 (r_cmp0 c6) ?_
            refine lv_goto (tgt := 80) hx hb dX1_quotient_72 (by decide) ?_
            refine lv_l2i (v := (y3 / y5).toInt32) hx hb dX1_quotient_80 rfl ?_
            exact W.iret (v := (y3 / y5).toInt32) hx hb hr (fun t ht hW => ⟨jq (by subst ey5 ey3; exact (((if_neg c1).trans ((if_neg c6).trans ((if_neg c7).trans rfl)))).symm), ht⟩) (fun q h => by cases h) dX1_quotient_81
        · refine lv_iload_n hx hb dX1_quotient_49 rfl (lv_at hl 3 rfl) ?_
          refine lv_bipush (v := 6) hx hb dX1_quotient_50 (by decide) ?_
          refine lv_icmp_ge (tgt := 59) hx hb dX1_quotient_52 (by decide) (fun c8 => ?_) (fun c8 => ?_)
          · refine lv_iload_n hx hb dX1_quotient_59 rfl (lv_at hl 4 rfl) ?_
            exact W.iret (v := p2) hx hb hr (fun t ht hW => ⟨jq (by subst ey5 ey3; exact (((if_neg c1).trans ((if_pos c6).trans ((if_pos c8).trans rfl)))).symm), ht⟩) (fun q h => by cases h) dX1_quotient_60
          · refine lv_iconst (v := (-1)) hx hb dX1_quotient_55 (by decide) ?_
            refine lv_goto (tgt := 60) hx hb dX1_quotient_56 (by decide) ?_
            exact W.iret (v := (-1)) hx hb hr (fun t ht hW => ⟨jq (by subst ey5 ey3; exact (((if_neg c1).trans ((if_pos c6).trans ((if_neg c8).trans rfl)))).symm), ht⟩) (fun q h => by cases h) dX1_quotient_60
      · exact (c4 (by decide)).elim
    · exact (c2 (by decide)).elim
  · refine lv_iconst (v := 1) hx hb dX1_quotient_6 (by decide) ?_
    refine lv_goto (tgt := 11) hx hb dX1_quotient_7 (by decide) ?_
    refine lv_istore_n (lv' := [(3, .int 1), (0, .int p1), (1, .int p2), (2, .int p3)]) hx hb dX1_quotient_11 rfl hl (by decide) rfl (fun ls hl => ?_)
    refine lv_iload_n hx hb dX1_quotient_12 rfl (lv_at hl 0 rfl) ?_
    refine lv_if_eq (tgt := 21) hx hb dX1_quotient_13 (by decide) (fun c9 => ?_) (fun c9 => ?_)
    · exact absurd c9 (by decide)
    · refine lv_iload_n hx hb dX1_quotient_16 rfl (lv_at hl 2 rfl) ?_
      refine lv_i2l (v := p2.toInt64) hx hb dX1_quotient_17 rfl ?_
      refine lv_goto (tgt := 25) hx hb dX1_quotient_18 (by decide) ?_
      refine lv_topl (fun y10 ey10 => ?_)
      refine lv_lstore (lv' := [(4, .long y10), (3, .int 1), (0, .int p1), (1, .int p2), (2, .int p3)]) hx hb dX1_quotient_25 hl (by decide) rfl (fun ls hl => ?_)
      refine lv_iload_n hx hb dX1_quotient_27 rfl (lv_at hl 1 rfl) ?_
      refine lv_if_eq (tgt := 36) hx hb dX1_quotient_28 (by decide) (fun c11 => ?_) (fun c11 => ?_)
      · exact absurd c11 (by decide)
      · refine lv_iload_n hx hb dX1_quotient_31 rfl (lv_at hl 4 rfl) ?_
        refine lv_i2l (v := p3.toInt64) hx hb dX1_quotient_32 rfl ?_
        refine lv_goto (tgt := 40) hx hb dX1_quotient_33 (by decide) ?_
        refine lv_topl (fun y12 ey12 => ?_)
        refine lv_lstore (lv' := [(6, .long y12), (4, .long y10), (3, .int 1), (0, .int p1), (1, .int p2), (2, .int p3)]) hx hb dX1_quotient_40 hl (by decide) rfl (fun ls hl => ?_)
        refine lv_lload hx hb dX1_quotient_42 (lv_at hl 0 rfl) ?_
        refine lv_lconst (v := 0) hx hb dX1_quotient_44 (by decide) ?_
        refine W.lcmp hx hb dX1_quotient_45 ?_
        refine lv_if_ne (tgt := 61) hx hb dX1_quotient_46 (by decide) (fun c13 => ?_) (fun c13 => ?_)
        · refine lv_iload_n hx hb dX1_quotient_61 rfl (lv_at hl 3 rfl) ?_
          refine lv_bipush (v := 6) hx hb dX1_quotient_62 (by decide) ?_
          refine lv_icmp_ge (tgt := 75) hx hb dX1_quotient_64 (by decide) (fun c14 => ?_) (fun c14 => ?_)
          · refine lv_lload hx hb dX1_quotient_75 (lv_at hl 1 rfl) ?_
            refine lv_lload hx hb dX1_quotient_77 (lv_at hl 0 rfl) ?_
            refine lv_lrem hx hb dX1_quotient_79 (r_cmp0 c13) ?_
            refine lv_l2i (v := (y10 - y10 / y12 * y12).toInt32) hx hb dX1_quotient_80 rfl ?_
            exact W.iret (v := (y10 - y10 / y12 * y12).toInt32) hx hb hr (fun t ht hW => ⟨jq (by subst ey12 ey10; exact (((if_pos c1).trans ((if_neg c13).trans ((if_pos c14).trans rfl)))).symm), ht⟩) (fun q h => by cases h) dX1_quotient_81
          · refine lv_lload hx hb dX1_quotient_67 (lv_at hl 1 rfl) ?_
            refine lv_lload hx hb dX1_quotient_69 (lv_at hl 0 rfl) ?_
            refine lv_ldiv hx hb dX1_quotient_71 (r_cmp0 c13) ?_
            refine lv_goto (tgt := 80) hx hb dX1_quotient_72 (by decide) ?_
            refine lv_l2i (v := (y10 / y12).toInt32) hx hb dX1_quotient_80 rfl ?_
            exact W.iret (v := (y10 / y12).toInt32) hx hb hr (fun t ht hW => ⟨jq (by subst ey12 ey10; exact (((if_pos c1).trans ((if_neg c13).trans ((if_neg c14).trans rfl)))).symm), ht⟩) (fun q h => by cases h) dX1_quotient_81
        · refine lv_iload_n hx hb dX1_quotient_49 rfl (lv_at hl 3 rfl) ?_
          refine lv_bipush (v := 6) hx hb dX1_quotient_50 (by decide) ?_
          refine lv_icmp_ge (tgt := 59) hx hb dX1_quotient_52 (by decide) (fun c15 => ?_) (fun c15 => ?_)
          · refine lv_iload_n hx hb dX1_quotient_59 rfl (lv_at hl 4 rfl) ?_
            exact W.iret (v := p2) hx hb hr (fun t ht hW => ⟨jq (by subst ey12 ey10; exact (((if_pos c1).trans ((if_pos c13).trans ((if_pos c15).trans rfl)))).symm), ht⟩) (fun q h => by cases h) dX1_quotient_60
          · refine lv_iconst (v := (-1)) hx hb dX1_quotient_55 (by decide) ?_
            refine lv_goto (tgt := 60) hx hb dX1_quotient_56 (by decide) ?_
            exact W.iret (v := (-1)) hx hb hr (fun t ht hW => ⟨jq (by subst ey12 ey10; exact (((if_pos c1).trans ((if_pos c13).trans ((if_neg c15).trans rfl)))).symm), ht⟩) (fun q h => by cases h) dX1_quotient_60

def r_isControl (p1 : Int32) : Int32 :=
  if p1 = (256 : Int32) then
    (1 : Int32)
  else
    if p1 = (261 : Int32) then
      (1 : Int32)
    else
      if p1 < (320 : Int32) then
        if p1 = (384 : Int32) then
          (1 : Int32)
        else
          if p1 = (1472 : Int32) then
            (1 : Int32)
          else
            if p1 = (1473 : Int32) then
              (1 : Int32)
            else
              (0 : Int32)
      else
        if p1 ≤ (323 : Int32) then
          (1 : Int32)
        else
          if p1 = (384 : Int32) then
            (1 : Int32)
          else
            if p1 = (1472 : Int32) then
              (1 : Int32)
            else
              if p1 = (1473 : Int32) then
                (1 : Int32)
              else
                (0 : Int32)
set_option maxHeartbeats 4000000 in
set_option maxRecDepth 100000 in
theorem cr_isControl (l : Launch) (p1 : Int32) : Met l yX1_isControl (.code yX1_isControl cX1_isControl 1 (some .boolean) :: gBIG) ({ frames := 0, cells := 0, slots := 0, locals := 0 }) (va_Pc [.int p1] (fun _ => True)) (QcRead (r_isControl p1)) 0 0 (fun _ => False) := by
  refine Met.ofW (cc := cX1_isControl) (maxL := 1) (ret := (some .boolean)) (by decide) rfl ?_
  intro p e s m args below meth c s₁ B hml hv
  obtain ⟨rfl, -⟩ := hv
  have hx := B.exec
  have hb := B.bytes
  have hr := B.returns
  have hts : ∀ w ∈ gBIG, w.before _ s = true := fun w h => atoms_spec (ws := (.code yX1_isControl cX1_isControl 1 (some .boolean) :: gBIG)) B.pre w (List.mem_cons_of_mem _ h)
  have hown : s.vm.findClass "PagedHartModel" = some m.cls := findClass_of_methodNamed B.named
  have hlocks := B.notSynchronized
  have hl := lv_entry ([.int p1]) (n := 1) (Nat.le_of_ble_eq_true rfl)
  rw [lg_entry_eq]
  generalize (lg_sl ([.int p1]) ++ List.replicate (1 - (lg_sl ([.int p1])).length) Slot.unset).toArray = ls at hl ⊢
  have hl : lv_has ls 1 [(0, .int p1)] := hl
  refine lv_iload_n hx hb dX1_isControl_0 rfl (lv_at hl 0 rfl) ?_
  refine lv_sipush (v := 256) hx hb dX1_isControl_1 (by decide) ?_
  refine lv_icmp_eq (tgt := 49) hx hb dX1_isControl_4 (by decide) (fun c1 => ?_) (fun c1 => ?_)
  · refine lv_iconst (v := 1) hx hb dX1_isControl_49 (by decide) ?_
    refine lv_goto (tgt := 54) hx hb dX1_isControl_50 (by decide) ?_
    exact W.zret (v := 1) hx hb hr rfl (fun t ht hW => ⟨jq (by exact (((if_pos c1).trans rfl)).symm), ht⟩) (fun q h => by cases h) dX1_isControl_54
  · refine lv_iload_n hx hb dX1_isControl_7 rfl (lv_at hl 0 rfl) ?_
    refine lv_sipush (v := 261) hx hb dX1_isControl_8 (by decide) ?_
    refine lv_icmp_eq (tgt := 49) hx hb dX1_isControl_11 (by decide) (fun c2 => ?_) (fun c2 => ?_)
    · refine lv_iconst (v := 1) hx hb dX1_isControl_49 (by decide) ?_
      refine lv_goto (tgt := 54) hx hb dX1_isControl_50 (by decide) ?_
      exact W.zret (v := 1) hx hb hr rfl (fun t ht hW => ⟨jq (by exact (((if_neg c1).trans ((if_pos c2).trans rfl))).symm), ht⟩) (fun q h => by cases h) dX1_isControl_54
    · refine lv_iload_n hx hb dX1_isControl_14 rfl (lv_at hl 0 rfl) ?_
      refine lv_sipush (v := 320) hx hb dX1_isControl_15 (by decide) ?_
      refine lv_icmp_lt (tgt := 28) hx hb dX1_isControl_18 (by decide) (fun c3 => ?_) (fun c3 => ?_)
      · refine lv_iload_n hx hb dX1_isControl_28 rfl (lv_at hl 0 rfl) ?_
        refine lv_sipush (v := 384) hx hb dX1_isControl_29 (by decide) ?_
        refine lv_icmp_eq (tgt := 49) hx hb dX1_isControl_32 (by decide) (fun c4 => ?_) (fun c4 => ?_)
        · refine lv_iconst (v := 1) hx hb dX1_isControl_49 (by decide) ?_
          refine lv_goto (tgt := 54) hx hb dX1_isControl_50 (by decide) ?_
          exact W.zret (v := 1) hx hb hr rfl (fun t ht hW => ⟨jq (by exact (((if_neg c1).trans ((if_neg c2).trans ((if_pos c3).trans ((if_pos c4).trans rfl))))).symm), ht⟩) (fun q h => by cases h) dX1_isControl_54
        · refine lv_iload_n hx hb dX1_isControl_35 rfl (lv_at hl 0 rfl) ?_
          refine lv_sipush (v := 1472) hx hb dX1_isControl_36 (by decide) ?_
          refine lv_icmp_eq (tgt := 49) hx hb dX1_isControl_39 (by decide) (fun c5 => ?_) (fun c5 => ?_)
          · refine lv_iconst (v := 1) hx hb dX1_isControl_49 (by decide) ?_
            refine lv_goto (tgt := 54) hx hb dX1_isControl_50 (by decide) ?_
            exact W.zret (v := 1) hx hb hr rfl (fun t ht hW => ⟨jq (by exact (((if_neg c1).trans ((if_neg c2).trans ((if_pos c3).trans ((if_neg c4).trans ((if_pos c5).trans rfl)))))).symm), ht⟩) (fun q h => by cases h) dX1_isControl_54
          · refine lv_iload_n hx hb dX1_isControl_42 rfl (lv_at hl 0 rfl) ?_
            refine lv_sipush (v := 1473) hx hb dX1_isControl_43 (by decide) ?_
            refine lv_icmp_ne (tgt := 53) hx hb dX1_isControl_46 (by decide) (fun c6 => ?_) (fun c6 => ?_)
            · refine lv_iconst (v := 0) hx hb dX1_isControl_53 (by decide) ?_
              exact W.zret (v := 0) hx hb hr rfl (fun t ht hW => ⟨jq (by exact (((if_neg c1).trans ((if_neg c2).trans ((if_pos c3).trans ((if_neg c4).trans ((if_neg c5).trans ((if_neg c6).trans rfl))))))).symm), ht⟩) (fun q h => by cases h) dX1_isControl_54
            · refine lv_iconst (v := 1) hx hb dX1_isControl_49 (by decide) ?_
              refine lv_goto (tgt := 54) hx hb dX1_isControl_50 (by decide) ?_
              exact W.zret (v := 1) hx hb hr rfl (fun t ht hW => ⟨jq (by exact (((if_neg c1).trans ((if_neg c2).trans ((if_pos c3).trans ((if_neg c4).trans ((if_neg c5).trans ((if_pos c6).trans rfl))))))).symm), ht⟩) (fun q h => by cases h) dX1_isControl_54
      · refine lv_iload_n hx hb dX1_isControl_21 rfl (lv_at hl 0 rfl) ?_
        refine lv_sipush (v := 323) hx hb dX1_isControl_22 (by decide) ?_
        refine lv_icmp_le (tgt := 49) hx hb dX1_isControl_25 (by decide) (fun c7 => ?_) (fun c7 => ?_)
        · refine lv_iconst (v := 1) hx hb dX1_isControl_49 (by decide) ?_
          refine lv_goto (tgt := 54) hx hb dX1_isControl_50 (by decide) ?_
          exact W.zret (v := 1) hx hb hr rfl (fun t ht hW => ⟨jq (by exact (((if_neg c1).trans ((if_neg c2).trans ((if_neg c3).trans ((if_pos c7).trans rfl))))).symm), ht⟩) (fun q h => by cases h) dX1_isControl_54
        · refine lv_iload_n hx hb dX1_isControl_28 rfl (lv_at hl 0 rfl) ?_
          refine lv_sipush (v := 384) hx hb dX1_isControl_29 (by decide) ?_
          refine lv_icmp_eq (tgt := 49) hx hb dX1_isControl_32 (by decide) (fun c8 => ?_) (fun c8 => ?_)
          · refine lv_iconst (v := 1) hx hb dX1_isControl_49 (by decide) ?_
            refine lv_goto (tgt := 54) hx hb dX1_isControl_50 (by decide) ?_
            exact W.zret (v := 1) hx hb hr rfl (fun t ht hW => ⟨jq (by exact (((if_neg c1).trans ((if_neg c2).trans ((if_neg c3).trans ((if_neg c7).trans ((if_pos c8).trans rfl)))))).symm), ht⟩) (fun q h => by cases h) dX1_isControl_54
          · refine lv_iload_n hx hb dX1_isControl_35 rfl (lv_at hl 0 rfl) ?_
            refine lv_sipush (v := 1472) hx hb dX1_isControl_36 (by decide) ?_
            refine lv_icmp_eq (tgt := 49) hx hb dX1_isControl_39 (by decide) (fun c9 => ?_) (fun c9 => ?_)
            · refine lv_iconst (v := 1) hx hb dX1_isControl_49 (by decide) ?_
              refine lv_goto (tgt := 54) hx hb dX1_isControl_50 (by decide) ?_
              exact W.zret (v := 1) hx hb hr rfl (fun t ht hW => ⟨jq (by exact (((if_neg c1).trans ((if_neg c2).trans ((if_neg c3).trans ((if_neg c7).trans ((if_neg c8).trans ((if_pos c9).trans rfl))))))).symm), ht⟩) (fun q h => by cases h) dX1_isControl_54
            · refine lv_iload_n hx hb dX1_isControl_42 rfl (lv_at hl 0 rfl) ?_
              refine lv_sipush (v := 1473) hx hb dX1_isControl_43 (by decide) ?_
              refine lv_icmp_ne (tgt := 53) hx hb dX1_isControl_46 (by decide) (fun c10 => ?_) (fun c10 => ?_)
              · refine lv_iconst (v := 0) hx hb dX1_isControl_53 (by decide) ?_
                exact W.zret (v := 0) hx hb hr rfl (fun t ht hW => ⟨jq (by exact (((if_neg c1).trans ((if_neg c2).trans ((if_neg c3).trans ((if_neg c7).trans ((if_neg c8).trans ((if_neg c9).trans ((if_neg c10).trans rfl)))))))).symm), ht⟩) (fun q h => by cases h) dX1_isControl_54
              · refine lv_iconst (v := 1) hx hb dX1_isControl_49 (by decide) ?_
                refine lv_goto (tgt := 54) hx hb dX1_isControl_50 (by decide) ?_
                exact W.zret (v := 1) hx hb hr rfl (fun t ht hW => ⟨jq (by exact (((if_neg c1).trans ((if_neg c2).trans ((if_neg c3).trans ((if_neg c7).trans ((if_neg c8).trans ((if_neg c9).trans ((if_pos c10).trans rfl)))))))).symm), ht⟩) (fun q h => by cases h) dX1_isControl_54

def r_isPlace (p1 : Int32) : Int32 :=
  let x1 : Int32 := r_isWord p1
  if x1 = 0 then
    (0 : Int32)
  else
    if (p1 - p1 / (4 : Int32) * (4 : Int32)) = 0 then
      (1 : Int32)
    else
      (0 : Int32)
set_option maxHeartbeats 4000000 in
set_option maxRecDepth 100000 in
theorem cr_isPlace (l : Launch) (p1 : Int32) : Met l yX1_isPlace (.code yX1_isPlace cX1_isPlace 1 (some .boolean) :: gBIG) ({ frames := 2, cells := 0, slots := 0, locals := 40 }) (va_Pc [.int p1] (fun _ => True)) (QcRead (r_isPlace p1)) 0 0 (fun _ => False) := by
  refine Met.ofW (cc := cX1_isPlace) (maxL := 1) (ret := (some .boolean)) (by decide) rfl ?_
  intro p e s m args below meth c s₁ B hml hv
  obtain ⟨rfl, -⟩ := hv
  have hx := B.exec
  have hb := B.bytes
  have hr := B.returns
  have hts : ∀ w ∈ gBIG, w.before _ s = true := fun w h => atoms_spec (ws := (.code yX1_isPlace cX1_isPlace 1 (some .boolean) :: gBIG)) B.pre w (List.mem_cons_of_mem _ h)
  have hown : s.vm.findClass "PagedHartModel" = some m.cls := findClass_of_methodNamed B.named
  have hlocks := B.notSynchronized
  have hl := lv_entry ([.int p1]) (n := 1) (Nat.le_of_ble_eq_true rfl)
  rw [lg_entry_eq]
  generalize (lg_sl ([.int p1]) ++ List.replicate (1 - (lg_sl ([.int p1])).length) Slot.unset).toArray = ls at hl ⊢
  have hl : lv_has ls 1 [(0, .int p1)] := hl
  refine lv_iload_n hx hb dX1_isPlace_0 rfl (lv_at hl 0 rfl) ?_
  refine W.callR (W.runS (As := [.int p1]) (rest := []) ⟨hx, hb, hml, hown, hts⟩ (cr_isWord l p1) (cwS 1 hts (gS mL_1_60 mS_1_isWord mN_1 mB_1_isWord) rfl rfl rfl (by decide +kernel) ⟨Nat.le_of_ble_eq_true rfl, Nat.le_of_ble_eq_true rfl⟩) ⟨jblind, fun _ _ _ => ⟨rfl, trivial⟩⟩ rfl rfl hl.1 rfl (lv_room (Nat.le_of_ble_eq_true rfl)) dX1_isPlace_1 ⟨Nat.zero_le _, Nat.zero_le _⟩) ?_
  refine W.eq (g2 := F0 m 4 ls (.int (r_isWord p1) :: [])) rfl ?_
  refine lv_topi (fun x1 ex1 => ?_)
  refine lv_if_eq (tgt := 17) hx hb dX1_isPlace_4 (by decide) (fun c2 => ?_) (fun c2 => ?_)
  · refine lv_iconst (v := 0) hx hb dX1_isPlace_17 (by decide) ?_
    exact W.zret (v := 0) hx hb hr rfl (fun t ht hW => ⟨jq (by subst ex1; exact (((if_pos c2).trans rfl)).symm), ht⟩) (fun q h => by cases h) dX1_isPlace_18
  · refine lv_iload_n hx hb dX1_isPlace_7 rfl (lv_at hl 0 rfl) ?_
    refine lv_iconst (v := 4) hx hb dX1_isPlace_8 (by decide) ?_
    refine lv_irem hx hb dX1_isPlace_9 (by decide) ?_
    refine lv_if_ne (tgt := 17) hx hb dX1_isPlace_10 (by decide) (fun c3 => ?_) (fun c3 => ?_)
    · refine lv_iconst (v := 0) hx hb dX1_isPlace_17 (by decide) ?_
      exact W.zret (v := 0) hx hb hr rfl (fun t ht hW => ⟨jq (by subst ex1; exact (((if_neg c2).trans ((if_neg c3).trans rfl))).symm), ht⟩) (fun q h => by cases h) dX1_isPlace_18
    · refine lv_iconst (v := 1) hx hb dX1_isPlace_13 (by decide) ?_
      refine lv_goto (tgt := 18) hx hb dX1_isPlace_14 (by decide) ?_
      exact W.zret (v := 1) hx hb hr rfl (fun t ht hW => ⟨jq (by subst ex1; exact (((if_neg c2).trans ((if_pos c3).trans rfl))).symm), ht⟩) (fun q h => by cases h) dX1_isPlace_18
theorem r_placeW {a : Int32} (h : ¬ r_isPlace a = 0) : ¬ r_isWord a = 0 := by
  intro q
  apply h
  unfold r_isPlace
  dsimp only
  rw [if_pos q]
theorem r_inP {a : Int32} (h : ¬ r_isPlace a = 0) : vp_in (a / (4 : Int32)) 65536 := r_in1 (r_placeW h)
theorem r_in6 {a : Int32} (k : Nat) (h : ¬ r_isPlace a = 0) (h2 : ¬ (262128 : Int32) < a) (hk : k < 4) : vp_in (a / (4 : Int32) + nI k) 65536 := by
  obtain ⟨j, hj, rfl⟩ := r_word_of (r_placeW h)
  have h3 : ¬ nI 262128 < nI j := h2
  rw [nI_ltI (by decide) (by omega)] at h3
  rw [r_div4 hj, nI_add]
  exact vp_in_nI (by omega) (by decide)
