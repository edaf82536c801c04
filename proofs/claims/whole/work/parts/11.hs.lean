def h_isInMemory (p1 : Int32) : Int32 :=
  if p1 < 0 then
    (0 : Int32)
  else
    if (262144 : Int32) ≤ p1 then
      (0 : Int32)
    else
      (1 : Int32)
set_option maxHeartbeats 4000000 in
set_option maxRecDepth 100000 in
theorem ch_isInMemory (l : Launch) (p1 : Int32) : Met l yX0_isInMemory (.code yX0_isInMemory cX0_isInMemory 1 (some .boolean) :: gBIG) ({ frames := 0, cells := 0, slots := 0, locals := 0 }) (va_Pc [.int p1] (fun _ => True)) (QcRead (h_isInMemory p1)) 0 0 (fun _ => False) := by
  refine Met.ofW (cc := cX0_isInMemory) (maxL := 1) (ret := (some .boolean)) (by decide) rfl ?_
  intro p e s m args below meth c s₁ B hml hv
  obtain ⟨rfl, -⟩ := hv
  have hx := B.exec
  have hb := B.bytes
  have hr := B.returns
  have hts : ∀ w ∈ gBIG, w.before _ s = true := fun w h => atoms_spec (ws := (.code yX0_isInMemory cX0_isInMemory 1 (some .boolean) :: gBIG)) B.pre w (List.mem_cons_of_mem _ h)
  have hown : s.vm.findClass "PagedHart" = some m.cls := findClass_of_methodNamed B.named
  have hlocks := B.notSynchronized
  have hl := lv_entry ([.int p1]) (n := 1) (Nat.le_of_ble_eq_true rfl)
  rw [lg_entry_eq]
  generalize (lg_sl ([.int p1]) ++ List.replicate (1 - (lg_sl ([.int p1])).length) Slot.unset).toArray = ls at hl ⊢
  have hl : lv_has ls 1 [(0, .int p1)] := hl
  refine lv_iload_n hx hb dX0_isInMemory_0 rfl (lv_at hl 0 rfl) ?_
  refine lv_if_lt (tgt := 14) hx hb dX0_isInMemory_1 (by decide) (fun c1 => ?_) (fun c1 => ?_)
  · refine lv_iconst (v := 0) hx hb dX0_isInMemory_14 (by decide) ?_
    exact W.zret (v := 0) hx hb hr rfl (fun t ht hW => ⟨jq (by exact (((if_pos c1).trans rfl)).symm), ht⟩) (fun q h => by cases h) dX0_isInMemory_15
  · refine lv_iload_n hx hb dX0_isInMemory_4 rfl (lv_at hl 0 rfl) ?_
    refine lv_ldc (v := 262144) hx hb hown (hts _ mC_0_72) dX0_isInMemory_5 ?_
    refine lv_icmp_ge (tgt := 14) hx hb dX0_isInMemory_7 (by decide) (fun c2 => ?_) (fun c2 => ?_)
    · refine lv_iconst (v := 0) hx hb dX0_isInMemory_14 (by decide) ?_
      exact W.zret (v := 0) hx hb hr rfl (fun t ht hW => ⟨jq (by exact (((if_neg c1).trans ((if_pos c2).trans rfl))).symm), ht⟩) (fun q h => by cases h) dX0_isInMemory_15
    · refine lv_iconst (v := 1) hx hb dX0_isInMemory_10 (by decide) ?_
      refine lv_goto (tgt := 15) hx hb dX0_isInMemory_11 (by decide) ?_
      exact W.zret (v := 1) hx hb hr rfl (fun t ht hW => ⟨jq (by exact (((if_neg c1).trans ((if_neg c2).trans rfl))).symm), ht⟩) (fun q h => by cases h) dX0_isInMemory_15
theorem h_mem_of {a : Int32} (h : ¬ h_isInMemory a = 0) : ∃ j : Nat, j < 262144 ∧ a = nI j := by
  unfold h_isInMemory at h
  by_cases h1 : a < 0
  · rw [if_pos h1] at h; exact absurd rfl h
  · rw [if_neg h1] at h
    by_cases h2 : (262144 : Int32) ≤ a
    · rw [if_pos h2] at h; exact absurd rfl h
    · obtain ⟨j, hj, rfl⟩ := nI_of h1
      exact ⟨j, Nat.lt_of_not_le (fun q => h2 (nI_le (a := 262144) q hj)), rfl⟩
theorem h_ush2 {j : Nat} (h : j < 262144) : jush (nI j) 2 = nI (j / 4) := pk_ushrN (n := j) (by omega) 2 2 (by decide)
theorem h_in1 {a : Int32} (h : ¬ h_isInMemory a = 0) : vp_in (jush a (2 : Int32)) 65536 := by
  obtain ⟨j, hj, rfl⟩ := h_mem_of h
  rw [h_ush2 hj]
  exact vp_in_nI (by omega) (by decide)

def h_isWord (p1 : Int32) : Int32 :=
  let x1 : Int32 := h_isInMemory p1
  if x1 = 0 then
    (0 : Int32)
  else
    if (p1 &&& (3 : Int32)) = 0 then
      (1 : Int32)
    else
      (0 : Int32)
set_option maxHeartbeats 4000000 in
set_option maxRecDepth 100000 in
theorem ch_isWord (l : Launch) (p1 : Int32) : Met l yX0_isWord (.code yX0_isWord cX0_isWord 1 (some .boolean) :: gBIG) ({ frames := 1, cells := 0, slots := 0, locals := 20 }) (va_Pc [.int p1] (fun _ => True)) (QcRead (h_isWord p1)) 0 0 (fun _ => False) := by
  refine Met.ofW (cc := cX0_isWord) (maxL := 1) (ret := (some .boolean)) (by decide) rfl ?_
  intro p e s m args below meth c s₁ B hml hv
  obtain ⟨rfl, -⟩ := hv
  have hx := B.exec
  have hb := B.bytes
  have hr := B.returns
  have hts : ∀ w ∈ gBIG, w.before _ s = true := fun w h => atoms_spec (ws := (.code yX0_isWord cX0_isWord 1 (some .boolean) :: gBIG)) B.pre w (List.mem_cons_of_mem _ h)
  have hown : s.vm.findClass "PagedHart" = some m.cls := findClass_of_methodNamed B.named
  have hlocks := B.notSynchronized
  have hl := lv_entry ([.int p1]) (n := 1) (Nat.le_of_ble_eq_true rfl)
  rw [lg_entry_eq]
  generalize (lg_sl ([.int p1]) ++ List.replicate (1 - (lg_sl ([.int p1])).length) Slot.unset).toArray = ls at hl ⊢
  have hl : lv_has ls 1 [(0, .int p1)] := hl
  refine lv_iload_n hx hb dX0_isWord_0 rfl (lv_at hl 0 rfl) ?_
  refine W.callR (W.runS (As := [.int p1]) (rest := []) ⟨hx, hb, hml, hown, hts⟩ (ch_isInMemory l p1) (cwS 1 hts (gS mL_0_73 mS_0_isInMemory mN_0 mB_0_isInMemory) rfl rfl rfl (by decide +kernel) ⟨Nat.le_of_ble_eq_true rfl, Nat.le_of_ble_eq_true rfl⟩) ⟨jblind, fun _ _ _ => ⟨rfl, trivial⟩⟩ rfl rfl hl.1 rfl (lv_room (Nat.le_of_ble_eq_true rfl)) dX0_isWord_1 ⟨Nat.zero_le _, Nat.zero_le _⟩) ?_
  refine W.eq (g2 := F0 m 4 ls (.int (h_isInMemory p1) :: [])) rfl ?_
  refine lv_topi (fun x1 ex1 => ?_)
  refine lv_if_eq (tgt := 17) hx hb dX0_isWord_4 (by decide) (fun c2 => ?_) (fun c2 => ?_)
  · refine lv_iconst (v := 0) hx hb dX0_isWord_17 (by decide) ?_
    exact W.zret (v := 0) hx hb hr rfl (fun t ht hW => ⟨jq (by subst ex1; exact (((if_pos c2).trans rfl)).symm), ht⟩) (fun q h => by cases h) dX0_isWord_18
  · refine lv_iload_n hx hb dX0_isWord_7 rfl (lv_at hl 0 rfl) ?_
    refine lv_iconst (v := 3) hx hb dX0_isWord_8 (by decide) ?_
    refine lv_iand hx hb dX0_isWord_9 ?_
    refine lv_if_ne (tgt := 17) hx hb dX0_isWord_10 (by decide) (fun c3 => ?_) (fun c3 => ?_)
    · refine lv_iconst (v := 0) hx hb dX0_isWord_17 (by decide) ?_
      exact W.zret (v := 0) hx hb hr rfl (fun t ht hW => ⟨jq (by subst ex1; exact (((if_neg c2).trans ((if_neg c3).trans rfl))).symm), ht⟩) (fun q h => by cases h) dX0_isWord_18
    · refine lv_iconst (v := 1) hx hb dX0_isWord_13 (by decide) ?_
      refine lv_goto (tgt := 18) hx hb dX0_isWord_14 (by decide) ?_
      exact W.zret (v := 1) hx hb hr rfl (fun t ht hW => ⟨jq (by subst ex1; exact (((if_neg c2).trans ((if_pos c3).trans rfl))).symm), ht⟩) (fun q h => by cases h) dX0_isWord_18
theorem h_wordM {a : Int32} (h : ¬ h_isWord a = 0) : ¬ h_isInMemory a = 0 := by
  intro q
  apply h
  unfold h_isWord
  dsimp only
  rw [if_pos q]
theorem h_inW {a : Int32} (h : ¬ h_isWord a = 0) : vp_in (jush a (2 : Int32)) 65536 := h_in1 (h_wordM h)
theorem h_in4 {a : Int32} (k : Nat) (h1 : ¬ h_isWord a = 0) (h2 : ¬ h_isWord (a + (12 : Int32)) = 0) (hk : k < 4) : vp_in (jush a (2 : Int32) + nI k) 65536 := by
  obtain ⟨j, hj, rfl⟩ := h_mem_of (h_wordM h1)
  obtain ⟨i, hi, e⟩ := h_mem_of (h_wordM h2)
  have e2 : nI (j + 12) = nI i := (nI_add j 12).symm.trans e
  have e3 : j + 12 = i := (nI_eq (by omega) (by omega)).mp e2
  rw [h_ush2 hj, nI_add]
  exact vp_in_nI (by omega) (by decide)
theorem h_inR {i : Int32} (h1 : ¬ i < 0) (h2 : i ≤ (33 : Int32)) (h3 : ¬ i = (32 : Int32)) (h4 : ¬ i = (33 : Int32)) : vp_in i 32 := by
  obtain ⟨j, hj, rfl⟩ := nI_of h1
  have a2 : j ≤ 33 := (nI_leI hj (by decide)).mp h2
  have a3 : ¬ j = 32 := fun q => h3 (by rw [q]; rfl)
  have a4 : ¬ j = 33 := fun q => h4 (by rw [q]; rfl)
  exact vp_in_nI (by omega) (by decide)

def h_frameOf (p1 : Int32) : Int32 :=
  ((jush p1 (10 : Int32)) <<< ((12 : Int32) &&& 31))
set_option maxHeartbeats 4000000 in
set_option maxRecDepth 100000 in
theorem ch_frameOf (l : Launch) (p1 : Int32) : Met l yX0_frameOf (.code yX0_frameOf cX0_frameOf 1 (some .int) :: gBIG) ({ frames := 0, cells := 0, slots := 0, locals := 0 }) (va_Pc [.int p1] (fun _ => True)) (QcRead (h_frameOf p1)) 0 0 (fun _ => False) := by
  refine Met.ofW (cc := cX0_frameOf) (maxL := 1) (ret := (some .int)) (by decide) rfl ?_
  intro p e s m args below meth c s₁ B hml hv
  obtain ⟨rfl, -⟩ := hv
  have hx := B.exec
  have hb := B.bytes
  have hr := B.returns
  have hts : ∀ w ∈ gBIG, w.before _ s = true := fun w h => atoms_spec (ws := (.code yX0_frameOf cX0_frameOf 1 (some .int) :: gBIG)) B.pre w (List.mem_cons_of_mem _ h)
  have hown : s.vm.findClass "PagedHart" = some m.cls := findClass_of_methodNamed B.named
  have hlocks := B.notSynchronized
  have hl := lv_entry ([.int p1]) (n := 1) (Nat.le_of_ble_eq_true rfl)
  rw [lg_entry_eq]
  generalize (lg_sl ([.int p1]) ++ List.replicate (1 - (lg_sl ([.int p1])).length) Slot.unset).toArray = ls at hl ⊢
  have hl : lv_has ls 1 [(0, .int p1)] := hl
  refine lv_iload_n hx hb dX0_frameOf_0 rfl (lv_at hl 0 rfl) ?_
  refine lv_bipush (v := 10) hx hb dX0_frameOf_1 (by decide) ?_
  refine lv_iushr (v := jush p1 (10 : Int32)) hx hb dX0_frameOf_3 rfl ?_
  refine lv_bipush (v := 12) hx hb dX0_frameOf_4 (by decide) ?_
  refine lv_ishl hx hb dX0_frameOf_6 ?_
  exact W.iret (v := (jush p1 (10 : Int32)) <<< ((12 : Int32) &&& 31)) hx hb hr (fun t ht hW => ⟨jq (by exact (rfl).symm), ht⟩) (fun q h => by cases h) dX0_frameOf_7

def h_misalignedCause (p1 : Int32) : Int32 :=
  if p1 = 0 then
    (0 : Int32)
  else
    if p1 = (1 : Int32) then
      (4 : Int32)
    else
      (6 : Int32)
set_option maxHeartbeats 4000000 in
set_option maxRecDepth 100000 in
theorem ch_misalignedCause (l : Launch) (p1 : Int32) : Met l yX0_misalignedCause (.code yX0_misalignedCause cX0_misalignedCause 1 (some .int) :: gBIG) ({ frames := 0, cells := 0, slots := 0, locals := 0 }) (va_Pc [.int p1] (fun _ => True)) (QcRead (h_misalignedCause p1)) 0 0 (fun _ => False) := by
  refine Met.ofW (cc := cX0_misalignedCause) (maxL := 1) (ret := (some .int)) (by decide) rfl ?_
  intro p e s m args below meth c s₁ B hml hv
  obtain ⟨rfl, -⟩ := hv
  have hx := B.exec
  have hb := B.bytes
  have hr := B.returns
  have hts : ∀ w ∈ gBIG, w.before _ s = true := fun w h => atoms_spec (ws := (.code yX0_misalignedCause cX0_misalignedCause 1 (some .int) :: gBIG)) B.pre w (List.mem_cons_of_mem _ h)
  have hown : s.vm.findClass "PagedHart" = some m.cls := findClass_of_methodNamed B.named
  have hlocks := B.notSynchronized
  have hl := lv_entry ([.int p1]) (n := 1) (Nat.le_of_ble_eq_true rfl)
  rw [lg_entry_eq]
  generalize (lg_sl ([.int p1]) ++ List.replicate (1 - (lg_sl ([.int p1])).length) Slot.unset).toArray = ls at hl ⊢
  have hl : lv_has ls 1 [(0, .int p1)] := hl
  refine lv_iload_n hx hb dX0_misalignedCause_0 rfl (lv_at hl 0 rfl) ?_
  refine lv_if_ne (tgt := 6) hx hb dX0_misalignedCause_1 (by decide) (fun c1 => ?_) (fun c1 => ?_)
  · refine lv_iload_n hx hb dX0_misalignedCause_6 rfl (lv_at hl 0 rfl) ?_
    refine lv_iconst (v := 1) hx hb dX0_misalignedCause_7 (by decide) ?_
    refine lv_icmp_ne (tgt := 15) hx hb dX0_misalignedCause_8 (by decide) (fun c2 => ?_) (fun c2 => ?_)
    · refine lv_bipush (v := 6) hx hb dX0_misalignedCause_15 (by decide) ?_
      exact W.iret (v := 6) hx hb hr (fun t ht hW => ⟨jq (by exact (((if_neg c1).trans ((if_neg c2).trans rfl))).symm), ht⟩) (fun q h => by cases h) dX0_misalignedCause_17
    · refine lv_iconst (v := 4) hx hb dX0_misalignedCause_11 (by decide) ?_
      refine lv_goto (tgt := 17) hx hb dX0_misalignedCause_12 (by decide) ?_
      exact W.iret (v := 4) hx hb hr (fun t ht hW => ⟨jq (by exact (((if_neg c1).trans ((if_pos c2).trans rfl))).symm), ht⟩) (fun q h => by cases h) dX0_misalignedCause_17
  · refine lv_iconst (v := 0) hx hb dX0_misalignedCause_4 (by decide) ?_
    exact W.iret (v := 0) hx hb hr (fun t ht hW => ⟨jq (by exact (((if_pos c1).trans rfl)).symm), ht⟩) (fun q h => by cases h) dX0_misalignedCause_5

def h_accessCause (p1 : Int32) : Int32 :=
  if p1 = 0 then
    (1 : Int32)
  else
    if p1 = (1 : Int32) then
      (5 : Int32)
    else
      (7 : Int32)
set_option maxHeartbeats 4000000 in
set_option maxRecDepth 100000 in
theorem ch_accessCause (l : Launch) (p1 : Int32) : Met l yX0_accessCause (.code yX0_accessCause cX0_accessCause 1 (some .int) :: gBIG) ({ frames := 0, cells := 0, slots := 0, locals := 0 }) (va_Pc [.int p1] (fun _ => True)) (QcRead (h_accessCause p1)) 0 0 (fun _ => False) := by
  refine Met.ofW (cc := cX0_accessCause) (maxL := 1) (ret := (some .int)) (by decide) rfl ?_
  intro p e s m args below meth c s₁ B hml hv
  obtain ⟨rfl, -⟩ := hv
  have hx := B.exec
  have hb := B.bytes
  have hr := B.returns
  have hts : ∀ w ∈ gBIG, w.before _ s = true := fun w h => atoms_spec (ws := (.code yX0_accessCause cX0_accessCause 1 (some .int) :: gBIG)) B.pre w (List.mem_cons_of_mem _ h)
  have hown : s.vm.findClass "PagedHart" = some m.cls := findClass_of_methodNamed B.named
  have hlocks := B.notSynchronized
  have hl := lv_entry ([.int p1]) (n := 1) (Nat.le_of_ble_eq_true rfl)
  rw [lg_entry_eq]
  generalize (lg_sl ([.int p1]) ++ List.replicate (1 - (lg_sl ([.int p1])).length) Slot.unset).toArray = ls at hl ⊢
  have hl : lv_has ls 1 [(0, .int p1)] := hl
  refine lv_iload_n hx hb dX0_accessCause_0 rfl (lv_at hl 0 rfl) ?_
  refine lv_if_ne (tgt := 6) hx hb dX0_accessCause_1 (by decide) (fun c1 => ?_) (fun c1 => ?_)
  · refine lv_iload_n hx hb dX0_accessCause_6 rfl (lv_at hl 0 rfl) ?_
    refine lv_iconst (v := 1) hx hb dX0_accessCause_7 (by decide) ?_
    refine lv_icmp_ne (tgt := 15) hx hb dX0_accessCause_8 (by decide) (fun c2 => ?_) (fun c2 => ?_)
    · refine lv_bipush (v := 7) hx hb dX0_accessCause_15 (by decide) ?_
      exact W.iret (v := 7) hx hb hr (fun t ht hW => ⟨jq (by exact (((if_neg c1).trans ((if_neg c2).trans rfl))).symm), ht⟩) (fun q h => by cases h) dX0_accessCause_17
    · refine lv_iconst (v := 5) hx hb dX0_accessCause_11 (by decide) ?_
      refine lv_goto (tgt := 17) hx hb dX0_accessCause_12 (by decide) ?_
      exact W.iret (v := 5) hx hb hr (fun t ht hW => ⟨jq (by exact (((if_neg c1).trans ((if_pos c2).trans rfl))).symm), ht⟩) (fun q h => by cases h) dX0_accessCause_17
  · refine lv_iconst (v := 1) hx hb dX0_accessCause_4 (by decide) ?_
    exact W.iret (v := 1) hx hb hr (fun t ht hW => ⟨jq (by exact (((if_pos c1).trans rfl)).symm), ht⟩) (fun q h => by cases h) dX0_accessCause_5

def h_pageCause (p1 : Int32) : Int32 :=
  if p1 = 0 then
    (12 : Int32)
  else
    if p1 = (1 : Int32) then
      (13 : Int32)
    else
      (15 : Int32)
set_option maxHeartbeats 4000000 in
set_option maxRecDepth 100000 in
theorem ch_pageCause (l : Launch) (p1 : Int32) : Met l yX0_pageCause (.code yX0_pageCause cX0_pageCause 1 (some .int) :: gBIG) ({ frames := 0, cells := 0, slots := 0, locals := 0 }) (va_Pc [.int p1] (fun _ => True)) (QcRead (h_pageCause p1)) 0 0 (fun _ => False) := by
  refine Met.ofW (cc := cX0_pageCause) (maxL := 1) (ret := (some .int)) (by decide) rfl ?_
  intro p e s m args below meth c s₁ B hml hv
  obtain ⟨rfl, -⟩ := hv
  have hx := B.exec
  have hb := B.bytes
  have hr := B.returns
  have hts : ∀ w ∈ gBIG, w.before _ s = true := fun w h => atoms_spec (ws := (.code yX0_pageCause cX0_pageCause 1 (some .int) :: gBIG)) B.pre w (List.mem_cons_of_mem _ h)
  have hown : s.vm.findClass "PagedHart" = some m.cls := findClass_of_methodNamed B.named
  have hlocks := B.notSynchronized
  have hl := lv_entry ([.int p1]) (n := 1) (Nat.le_of_ble_eq_true rfl)
  rw [lg_entry_eq]
  generalize (lg_sl ([.int p1]) ++ List.replicate (1 - (lg_sl ([.int p1])).length) Slot.unset).toArray = ls at hl ⊢
  have hl : lv_has ls 1 [(0, .int p1)] := hl
  refine lv_iload_n hx hb dX0_pageCause_0 rfl (lv_at hl 0 rfl) ?_
  refine lv_if_ne (tgt := 7) hx hb dX0_pageCause_1 (by decide) (fun c1 => ?_) (fun c1 => ?_)
  · refine lv_iload_n hx hb dX0_pageCause_7 rfl (lv_at hl 0 rfl) ?_
    refine lv_iconst (v := 1) hx hb dX0_pageCause_8 (by decide) ?_
    refine lv_icmp_ne (tgt := 17) hx hb dX0_pageCause_9 (by decide) (fun c2 => ?_) (fun c2 => ?_)
    · refine lv_bipush (v := 15) hx hb dX0_pageCause_17 (by decide) ?_
      exact W.iret (v := 15) hx hb hr (fun t ht hW => ⟨jq (by exact (((if_neg c1).trans ((if_neg c2).trans rfl))).symm), ht⟩) (fun q h => by cases h) dX0_pageCause_19
    · refine lv_bipush (v := 13) hx hb dX0_pageCause_12 (by decide) ?_
      refine lv_goto (tgt := 19) hx hb dX0_pageCause_14 (by decide) ?_
      exact W.iret (v := 13) hx hb hr (fun t ht hW => ⟨jq (by exact (((if_neg c1).trans ((if_pos c2).trans rfl))).symm), ht⟩) (fun q h => by cases h) dX0_pageCause_19
  · refine lv_bipush (v := 12) hx hb dX0_pageCause_4 (by decide) ?_
    exact W.iret (v := 12) hx hb hr (fun t ht hW => ⟨jq (by exact (((if_pos c1).trans rfl)).symm), ht⟩) (fun q h => by cases h) dX0_pageCause_6
theorem h_nA (b : Int32) : ¬ (0 : Int32) ≤ ((-1) : Int32) - h_accessCause b := by
  unfold h_accessCause
  (repeat' split) <;> decide
theorem h_nP (b : Int32) : ¬ (0 : Int32) ≤ ((-1) : Int32) - h_pageCause b := by
  unfold h_pageCause
  (repeat' split) <;> decide
theorem h_nM (b : Int32) : ¬ (0 : Int32) ≤ ((-1) : Int32) - h_misalignedCause b := by
  unfold h_misalignedCause
  (repeat' split) <;> decide

def h_fOf (p1 : Int32) : Int32 :=
  ((jush p1 (12 : Int32)) &&& (7 : Int32))
set_option maxHeartbeats 4000000 in
set_option maxRecDepth 100000 in
theorem ch_fOf (l : Launch) (p1 : Int32) : Met l yX0_fOf (.code yX0_fOf cX0_fOf 1 (some .int) :: gBIG) ({ frames := 0, cells := 0, slots := 0, locals := 0 }) (va_Pc [.int p1] (fun _ => True)) (QcRead (h_fOf p1)) 0 0 (fun _ => False) := by
  refine Met.ofW (cc := cX0_fOf) (maxL := 1) (ret := (some .int)) (by decide) rfl ?_
  intro p e s m args below meth c s₁ B hml hv
  obtain ⟨rfl, -⟩ := hv
  have hx := B.exec
  have hb := B.bytes
  have hr := B.returns
  have hts : ∀ w ∈ gBIG, w.before _ s = true := fun w h => atoms_spec (ws := (.code yX0_fOf cX0_fOf 1 (some .int) :: gBIG)) B.pre w (List.mem_cons_of_mem _ h)
  have hown : s.vm.findClass "PagedHart" = some m.cls := findClass_of_methodNamed B.named
  have hlocks := B.notSynchronized
  have hl := lv_entry ([.int p1]) (n := 1) (Nat.le_of_ble_eq_true rfl)
  rw [lg_entry_eq]
  generalize (lg_sl ([.int p1]) ++ List.replicate (1 - (lg_sl ([.int p1])).length) Slot.unset).toArray = ls at hl ⊢
  have hl : lv_has ls 1 [(0, .int p1)] := hl
  refine lv_iload_n hx hb dX0_fOf_0 rfl (lv_at hl 0 rfl) ?_
  refine lv_bipush (v := 12) hx hb dX0_fOf_1 (by decide) ?_
  refine lv_iushr (v := jush p1 (12 : Int32)) hx hb dX0_fOf_3 rfl ?_
  refine lv_bipush (v := 7) hx hb dX0_fOf_4 (by decide) ?_
  refine lv_iand hx hb dX0_fOf_6 ?_
  exact W.iret (v := (jush p1 (12 : Int32)) &&& (7 : Int32)) hx hb hr (fun t ht hW => ⟨jq (by exact (rfl).symm), ht⟩) (fun q h => by cases h) dX0_fOf_7

def h_gOf (p1 : Int32) : Int32 :=
  (jush p1 (25 : Int32))
set_option maxHeartbeats 4000000 in
set_option maxRecDepth 100000 in
theorem ch_gOf (l : Launch) (p1 : Int32) : Met l yX0_gOf (.code yX0_gOf cX0_gOf 1 (some .int) :: gBIG) ({ frames := 0, cells := 0, slots := 0, locals := 0 }) (va_Pc [.int p1] (fun _ => True)) (QcRead (h_gOf p1)) 0 0 (fun _ => False) := by
  refine Met.ofW (cc := cX0_gOf) (maxL := 1) (ret := (some .int)) (by decide) rfl ?_
  intro p e s m args below meth c s₁ B hml hv
  obtain ⟨rfl, -⟩ := hv
  have hx := B.exec
  have hb := B.bytes
  have hr := B.returns
  have hts : ∀ w ∈ gBIG, w.before _ s = true := fun w h => atoms_spec (ws := (.code yX0_gOf cX0_gOf 1 (some .int) :: gBIG)) B.pre w (List.mem_cons_of_mem _ h)
  have hown : s.vm.findClass "PagedHart" = some m.cls := findClass_of_methodNamed B.named
  have hlocks := B.notSynchronized
  have hl := lv_entry ([.int p1]) (n := 1) (Nat.le_of_ble_eq_true rfl)
  rw [lg_entry_eq]
  generalize (lg_sl ([.int p1]) ++ List.replicate (1 - (lg_sl ([.int p1])).length) Slot.unset).toArray = ls at hl ⊢
  have hl : lv_has ls 1 [(0, .int p1)] := hl
  refine lv_iload_n hx hb dX0_gOf_0 rfl (lv_at hl 0 rfl) ?_
  refine lv_bipush (v := 25) hx hb dX0_gOf_1 (by decide) ?_
  refine lv_iushr (v := jush p1 (25 : Int32)) hx hb dX0_gOf_3 rfl ?_
  exact W.iret (v := jush p1 (25 : Int32)) hx hb hr (fun t ht hW => ⟨jq (by exact (rfl).symm), ht⟩) (fun q h => by cases h) dX0_gOf_4

def h_iOf (p1 : Int32) : Int32 :=
  (p1 >>> ((20 : Int32) &&& 31))
set_option maxHeartbeats 4000000 in
set_option maxRecDepth 100000 in
theorem ch_iOf (l : Launch) (p1 : Int32) : Met l yX0_iOf (.code yX0_iOf cX0_iOf 1 (some .int) :: gBIG) ({ frames := 0, cells := 0, slots := 0, locals := 0 }) (va_Pc [.int p1] (fun _ => True)) (QcRead (h_iOf p1)) 0 0 (fun _ => False) := by
  refine Met.ofW (cc := cX0_iOf) (maxL := 1) (ret := (some .int)) (by decide) rfl ?_
  intro p e s m args below meth c s₁ B hml hv
  obtain ⟨rfl, -⟩ := hv
  have hx := B.exec
  have hb := B.bytes
  have hr := B.returns
  have hts : ∀ w ∈ gBIG, w.before _ s = true := fun w h => atoms_spec (ws := (.code yX0_iOf cX0_iOf 1 (some .int) :: gBIG)) B.pre w (List.mem_cons_of_mem _ h)
  have hown : s.vm.findClass "PagedHart" = some m.cls := findClass_of_methodNamed B.named
  have hlocks := B.notSynchronized
  have hl := lv_entry ([.int p1]) (n := 1) (Nat.le_of_ble_eq_true rfl)
  rw [lg_entry_eq]
  generalize (lg_sl ([.int p1]) ++ List.replicate (1 - (lg_sl ([.int p1])).length) Slot.unset).toArray = ls at hl ⊢
  have hl : lv_has ls 1 [(0, .int p1)] := hl
  refine lv_iload_n hx hb dX0_iOf_0 rfl (lv_at hl 0 rfl) ?_
  refine lv_bipush (v := 20) hx hb dX0_iOf_1 (by decide) ?_
  refine lv_ishr hx hb dX0_iOf_3 ?_
  exact W.iret (v := p1 >>> ((20 : Int32) &&& 31)) hx hb hr (fun t ht hW => ⟨jq (by exact (rfl).symm), ht⟩) (fun q h => by cases h) dX0_iOf_4

def h_sOf (p1 : Int32) : Int32 :=
  let x1 : Int32 := ((p1 >>> ((25 : Int32) &&& 31)) <<< ((5 : Int32) &&& 31)) ||| ((jush p1 (7 : Int32)) &&& (31 : Int32))
  x1
set_option maxHeartbeats 4000000 in
set_option maxRecDepth 100000 in
theorem ch_sOf (l : Launch) (p1 : Int32) : Met l yX0_sOf (.code yX0_sOf cX0_sOf 1 (some .int) :: gBIG) ({ frames := 0, cells := 0, slots := 0, locals := 0 }) (va_Pc [.int p1] (fun _ => True)) (QcRead (h_sOf p1)) 0 0 (fun _ => False) := by
  refine Met.ofW (cc := cX0_sOf) (maxL := 1) (ret := (some .int)) (by decide) rfl ?_
  intro p e s m args below meth c s₁ B hml hv
  obtain ⟨rfl, -⟩ := hv
  have hx := B.exec
  have hb := B.bytes
  have hr := B.returns
  have hts : ∀ w ∈ gBIG, w.before _ s = true := fun w h => atoms_spec (ws := (.code yX0_sOf cX0_sOf 1 (some .int) :: gBIG)) B.pre w (List.mem_cons_of_mem _ h)
  have hown : s.vm.findClass "PagedHart" = some m.cls := findClass_of_methodNamed B.named
  have hlocks := B.notSynchronized
  have hl := lv_entry ([.int p1]) (n := 1) (Nat.le_of_ble_eq_true rfl)
  rw [lg_entry_eq]
  generalize (lg_sl ([.int p1]) ++ List.replicate (1 - (lg_sl ([.int p1])).length) Slot.unset).toArray = ls at hl ⊢
  have hl : lv_has ls 1 [(0, .int p1)] := hl
  refine lv_iload_n hx hb dX0_sOf_0 rfl (lv_at hl 0 rfl) ?_
  refine lv_bipush (v := 25) hx hb dX0_sOf_1 (by decide) ?_
  refine lv_ishr hx hb dX0_sOf_3 ?_
  refine lv_iconst (v := 5) hx hb dX0_sOf_4 (by decide) ?_
  refine lv_ishl hx hb dX0_sOf_5 ?_
  refine lv_iload_n hx hb dX0_sOf_6 rfl (lv_at hl 0 rfl) ?_
  refine lv_bipush (v := 7) hx hb dX0_sOf_7 (by decide) ?_
  refine lv_iushr (v := jush p1 (7 : Int32)) hx hb dX0_sOf_9 rfl ?_
  refine lv_bipush (v := 31) hx hb dX0_sOf_10 (by decide) ?_
  refine lv_iand hx hb dX0_sOf_12 ?_
  refine lv_ior hx hb dX0_sOf_13 ?_
  refine lv_topi (fun x1 ex1 => ?_)
  exact W.iret (v := x1) hx hb hr (fun t ht hW => ⟨jq (by subst ex1; exact (rfl).symm), ht⟩) (fun q h => by cases h) dX0_sOf_14

def h_uOf (p1 : Int32) : Int32 :=
  (p1 &&& ((-4096) : Int32))
set_option maxHeartbeats 4000000 in
set_option maxRecDepth 100000 in
theorem ch_uOf (l : Launch) (p1 : Int32) : Met l yX0_uOf (.code yX0_uOf cX0_uOf 1 (some .int) :: gBIG) ({ frames := 0, cells := 0, slots := 0, locals := 0 }) (va_Pc [.int p1] (fun _ => True)) (QcRead (h_uOf p1)) 0 0 (fun _ => False) := by
  refine Met.ofW (cc := cX0_uOf) (maxL := 1) (ret := (some .int)) (by decide) rfl ?_
  intro p e s m args below meth c s₁ B hml hv
  obtain ⟨rfl, -⟩ := hv
  have hx := B.exec
  have hb := B.bytes
  have hr := B.returns
  have hts : ∀ w ∈ gBIG, w.before _ s = true := fun w h => atoms_spec (ws := (.code yX0_uOf cX0_uOf 1 (some .int) :: gBIG)) B.pre w (List.mem_cons_of_mem _ h)
  have hown : s.vm.findClass "PagedHart" = some m.cls := findClass_of_methodNamed B.named
  have hlocks := B.notSynchronized
  have hl := lv_entry ([.int p1]) (n := 1) (Nat.le_of_ble_eq_true rfl)
  rw [lg_entry_eq]
  generalize (lg_sl ([.int p1]) ++ List.replicate (1 - (lg_sl ([.int p1])).length) Slot.unset).toArray = ls at hl ⊢
  have hl : lv_has ls 1 [(0, .int p1)] := hl
  refine lv_iload_n hx hb dX0_uOf_0 rfl (lv_at hl 0 rfl) ?_
  refine lv_sipush (v := (-4096)) hx hb dX0_uOf_1 (by decide) ?_
  refine lv_iand hx hb dX0_uOf_4 ?_
  exact W.iret (v := p1 &&& ((-4096) : Int32)) hx hb hr (fun t ht hW => ⟨jq (by exact (rfl).symm), ht⟩) (fun q h => by cases h) dX0_uOf_5

def h_branchDistance (p1 : Int32) : Int32 :=
  let x1 : Int32 := ((p1 >>> ((31 : Int32) &&& 31)) <<< ((12 : Int32) &&& 31)) ||| (((jush p1 (7 : Int32)) &&& (1 : Int32)) <<< ((11 : Int32) &&& 31))
  let x2 : Int32 := x1 ||| (((jush p1 (25 : Int32)) &&& (63 : Int32)) <<< ((5 : Int32) &&& 31))
  let x3 : Int32 := x2 ||| (((jush p1 (8 : Int32)) &&& (15 : Int32)) <<< ((1 : Int32) &&& 31))
  x3
set_option maxHeartbeats 4000000 in
set_option maxRecDepth 100000 in
theorem ch_branchDistance (l : Launch) (p1 : Int32) : Met l yX0_branchDistance (.code yX0_branchDistance cX0_branchDistance 1 (some .int) :: gBIG) ({ frames := 0, cells := 0, slots := 0, locals := 0 }) (va_Pc [.int p1] (fun _ => True)) (QcRead (h_branchDistance p1)) 0 0 (fun _ => False) := by
  refine Met.ofW (cc := cX0_branchDistance) (maxL := 1) (ret := (some .int)) (by decide) rfl ?_
  intro p e s m args below meth c s₁ B hml hv
  obtain ⟨rfl, -⟩ := hv
  have hx := B.exec
  have hb := B.bytes
  have hr := B.returns
  have hts : ∀ w ∈ gBIG, w.before _ s = true := fun w h => atoms_spec (ws := (.code yX0_branchDistance cX0_branchDistance 1 (some .int) :: gBIG)) B.pre w (List.mem_cons_of_mem _ h)
  have hown : s.vm.findClass "PagedHart" = some m.cls := findClass_of_methodNamed B.named
  have hlocks := B.notSynchronized
  have hl := lv_entry ([.int p1]) (n := 1) (Nat.le_of_ble_eq_true rfl)
  rw [lg_entry_eq]
  generalize (lg_sl ([.int p1]) ++ List.replicate (1 - (lg_sl ([.int p1])).length) Slot.unset).toArray = ls at hl ⊢
  have hl : lv_has ls 1 [(0, .int p1)] := hl
  refine lv_iload_n hx hb dX0_branchDistance_0 rfl (lv_at hl 0 rfl) ?_
  refine lv_bipush (v := 31) hx hb dX0_branchDistance_1 (by decide) ?_
  refine lv_ishr hx hb dX0_branchDistance_3 ?_
  refine lv_bipush (v := 12) hx hb dX0_branchDistance_4 (by decide) ?_
  refine lv_ishl hx hb dX0_branchDistance_6 ?_
  refine lv_iload_n hx hb dX0_branchDistance_7 rfl (lv_at hl 0 rfl) ?_
  refine lv_bipush (v := 7) hx hb dX0_branchDistance_8 (by decide) ?_
  refine lv_iushr (v := jush p1 (7 : Int32)) hx hb dX0_branchDistance_10 rfl ?_
  refine lv_iconst (v := 1) hx hb dX0_branchDistance_11 (by decide) ?_
  refine lv_iand hx hb dX0_branchDistance_12 ?_
  refine lv_bipush (v := 11) hx hb dX0_branchDistance_13 (by decide) ?_
  refine lv_ishl hx hb dX0_branchDistance_15 ?_
  refine lv_ior hx hb dX0_branchDistance_16 ?_
  refine lv_topi (fun x1 ex1 => ?_)
  refine lv_iload_n hx hb dX0_branchDistance_17 rfl (lv_at hl 0 rfl) ?_
  refine lv_bipush (v := 25) hx hb dX0_branchDistance_18 (by decide) ?_
  refine lv_iushr (v := jush p1 (25 : Int32)) hx hb dX0_branchDistance_20 rfl ?_
  refine lv_bipush (v := 63) hx hb dX0_branchDistance_21 (by decide) ?_
  refine lv_iand hx hb dX0_branchDistance_23 ?_
  refine lv_iconst (v := 5) hx hb dX0_branchDistance_24 (by decide) ?_
  refine lv_ishl hx hb dX0_branchDistance_25 ?_
  refine lv_ior hx hb dX0_branchDistance_26 ?_
  refine lv_topi (fun x2 ex2 => ?_)
  refine lv_iload_n hx hb dX0_branchDistance_27 rfl (lv_at hl 0 rfl) ?_
  refine lv_bipush (v := 8) hx hb dX0_branchDistance_28 (by decide) ?_
  refine lv_iushr (v := jush p1 (8 : Int32)) hx hb dX0_branchDistance_30 rfl ?_
  refine lv_bipush (v := 15) hx hb dX0_branchDistance_31 (by decide) ?_
  refine lv_iand hx hb dX0_branchDistance_33 ?_
  refine lv_iconst (v := 1) hx hb dX0_branchDistance_34 (by decide) ?_
  refine lv_ishl hx hb dX0_branchDistance_35 ?_
  refine lv_ior hx hb dX0_branchDistance_36 ?_
  refine lv_topi (fun x3 ex3 => ?_)
  exact W.iret (v := x3) hx hb hr (fun t ht hW => ⟨jq (by subst ex3 ex2 ex1; exact (rfl).symm), ht⟩) (fun q h => by cases h) dX0_branchDistance_37

def h_jumpDistance (p1 : Int32) : Int32 :=
  let x1 : Int32 := ((p1 >>> ((31 : Int32) &&& 31)) <<< ((20 : Int32) &&& 31)) ||| (((jush p1 (12 : Int32)) &&& (255 : Int32)) <<< ((12 : Int32) &&& 31))
  let x2 : Int32 := x1 ||| (((jush p1 (20 : Int32)) &&& (1 : Int32)) <<< ((11 : Int32) &&& 31))
  let x3 : Int32 := x2 ||| (((jush p1 (21 : Int32)) &&& (1023 : Int32)) <<< ((1 : Int32) &&& 31))
  x3
set_option maxHeartbeats 4000000 in
set_option maxRecDepth 100000 in
theorem ch_jumpDistance (l : Launch) (p1 : Int32) : Met l yX0_jumpDistance (.code yX0_jumpDistance cX0_jumpDistance 1 (some .int) :: gBIG) ({ frames := 0, cells := 0, slots := 0, locals := 0 }) (va_Pc [.int p1] (fun _ => True)) (QcRead (h_jumpDistance p1)) 0 0 (fun _ => False) := by
  refine Met.ofW (cc := cX0_jumpDistance) (maxL := 1) (ret := (some .int)) (by decide) rfl ?_
  intro p e s m args below meth c s₁ B hml hv
  obtain ⟨rfl, -⟩ := hv
  have hx := B.exec
  have hb := B.bytes
  have hr := B.returns
  have hts : ∀ w ∈ gBIG, w.before _ s = true := fun w h => atoms_spec (ws := (.code yX0_jumpDistance cX0_jumpDistance 1 (some .int) :: gBIG)) B.pre w (List.mem_cons_of_mem _ h)
  have hown : s.vm.findClass "PagedHart" = some m.cls := findClass_of_methodNamed B.named
  have hlocks := B.notSynchronized
  have hl := lv_entry ([.int p1]) (n := 1) (Nat.le_of_ble_eq_true rfl)
  rw [lg_entry_eq]
  generalize (lg_sl ([.int p1]) ++ List.replicate (1 - (lg_sl ([.int p1])).length) Slot.unset).toArray = ls at hl ⊢
  have hl : lv_has ls 1 [(0, .int p1)] := hl
  refine lv_iload_n hx hb dX0_jumpDistance_0 rfl (lv_at hl 0 rfl) ?_
  refine lv_bipush (v := 31) hx hb dX0_jumpDistance_1 (by decide) ?_
  refine lv_ishr hx hb dX0_jumpDistance_3 ?_
  refine lv_bipush (v := 20) hx hb dX0_jumpDistance_4 (by decide) ?_
  refine lv_ishl hx hb dX0_jumpDistance_6 ?_
  refine lv_iload_n hx hb dX0_jumpDistance_7 rfl (lv_at hl 0 rfl) ?_
  refine lv_bipush (v := 12) hx hb dX0_jumpDistance_8 (by decide) ?_
  refine lv_iushr (v := jush p1 (12 : Int32)) hx hb dX0_jumpDistance_10 rfl ?_
  refine lv_sipush (v := 255) hx hb dX0_jumpDistance_11 (by decide) ?_
  refine lv_iand hx hb dX0_jumpDistance_14 ?_
  refine lv_bipush (v := 12) hx hb dX0_jumpDistance_15 (by decide) ?_
  refine lv_ishl hx hb dX0_jumpDistance_17 ?_
  refine lv_ior hx hb dX0_jumpDistance_18 ?_
  refine lv_topi (fun x1 ex1 => ?_)
  refine lv_iload_n hx hb dX0_jumpDistance_19 rfl (lv_at hl 0 rfl) ?_
  refine lv_bipush (v := 20) hx hb dX0_jumpDistance_20 (by decide) ?_
  refine lv_iushr (v := jush p1 (20 : Int32)) hx hb dX0_jumpDistance_22 rfl ?_
  refine lv_iconst (v := 1) hx hb dX0_jumpDistance_23 (by decide) ?_
  refine lv_iand hx hb dX0_jumpDistance_24 ?_
  refine lv_bipush (v := 11) hx hb dX0_jumpDistance_25 (by decide) ?_
  refine lv_ishl hx hb dX0_jumpDistance_27 ?_
  refine lv_ior hx hb dX0_jumpDistance_28 ?_
  refine lv_topi (fun x2 ex2 => ?_)
  refine lv_iload_n hx hb dX0_jumpDistance_29 rfl (lv_at hl 0 rfl) ?_
  refine lv_bipush (v := 21) hx hb dX0_jumpDistance_30 (by decide) ?_
  refine lv_iushr (v := jush p1 (21 : Int32)) hx hb dX0_jumpDistance_32 rfl ?_
  refine lv_sipush (v := 1023) hx hb dX0_jumpDistance_33 (by decide) ?_
  refine lv_iand hx hb dX0_jumpDistance_36 ?_
  refine lv_iconst (v := 1) hx hb dX0_jumpDistance_37 (by decide) ?_
  refine lv_ishl hx hb dX0_jumpDistance_38 ?_
  refine lv_ior hx hb dX0_jumpDistance_39 ?_
  refine lv_topi (fun x3 ex3 => ?_)
  exact W.iret (v := x3) hx hb hr (fun t ht hW => ⟨jq (by subst ex3 ex2 ex1; exact (rfl).symm), ht⟩) (fun q h => by cases h) dX0_jumpDistance_40

def h_isBelow (p1 : Int32) (p2 : Int32) : Int32 :=
  let x1 : Int32 := lg_cmp (p1.toInt64 &&& (4294967295 : Int64)) (p2.toInt64 &&& (4294967295 : Int64))
  if 0 ≤ x1 then
    (0 : Int32)
  else
    (1 : Int32)
set_option maxHeartbeats 4000000 in
set_option maxRecDepth 100000 in
theorem ch_isBelow (l : Launch) (p1 : Int32) (p2 : Int32) : Met l yX0_isBelow (.code yX0_isBelow cX0_isBelow 2 (some .boolean) :: gBIG) ({ frames := 0, cells := 0, slots := 0, locals := 0 }) (va_Pc [.int p1, .int p2] (fun _ => True)) (QcRead (h_isBelow p1 p2)) 0 0 (fun _ => False) := by
  refine Met.ofW (cc := cX0_isBelow) (maxL := 2) (ret := (some .boolean)) (by decide) rfl ?_
  intro p e s m args below meth c s₁ B hml hv
  obtain ⟨rfl, -⟩ := hv
  have hx := B.exec
  have hb := B.bytes
  have hr := B.returns
  have hts : ∀ w ∈ gBIG, w.before _ s = true := fun w h => atoms_spec (ws := (.code yX0_isBelow cX0_isBelow 2 (some .boolean) :: gBIG)) B.pre w (List.mem_cons_of_mem _ h)
  have hown : s.vm.findClass "PagedHart" = some m.cls := findClass_of_methodNamed B.named
  have hlocks := B.notSynchronized
  have hl := lv_entry ([.int p1, .int p2]) (n := 2) (Nat.le_of_ble_eq_true rfl)
  rw [lg_entry_eq]
  generalize (lg_sl ([.int p1, .int p2]) ++ List.replicate (2 - (lg_sl ([.int p1, .int p2])).length) Slot.unset).toArray = ls at hl ⊢
  have hl : lv_has ls 2 [(0, .int p1), (1, .int p2)] := hl
  refine lv_iload_n hx hb dX0_isBelow_0 rfl (lv_at hl 0 rfl) ?_
  refine lv_i2l (v := p1.toInt64) hx hb dX0_isBelow_1 rfl ?_
  refine lv_ldc2 (v := 4294967295) hx hb hown (hts _ mC_0_174) dX0_isBelow_2 ?_
  refine lv_land hx hb dX0_isBelow_5 ?_
  refine lv_iload_n hx hb dX0_isBelow_6 rfl (lv_at hl 1 rfl) ?_
  refine lv_i2l (v := p2.toInt64) hx hb dX0_isBelow_7 rfl ?_
  refine lv_ldc2 (v := 4294967295) hx hb hown (hts _ mC_0_174) dX0_isBelow_8 ?_
  refine lv_land hx hb dX0_isBelow_11 ?_
  refine W.lcmp hx hb dX0_isBelow_12 ?_
  refine lv_topi (fun x1 ex1 => ?_)
  refine lv_if_ge (tgt := 20) hx hb dX0_isBelow_13 (by decide) (fun c2 => ?_) (fun c2 => ?_)
  · refine lv_iconst (v := 0) hx hb dX0_isBelow_20 (by decide) ?_
    exact W.zret (v := 0) hx hb hr rfl (fun t ht hW => ⟨jq (by subst ex1; exact (((if_pos c2).trans rfl)).symm), ht⟩) (fun q h => by cases h) dX0_isBelow_21
  · refine lv_iconst (v := 1) hx hb dX0_isBelow_16 (by decide) ?_
    refine lv_goto (tgt := 21) hx hb dX0_isBelow_17 (by decide) ?_
    exact W.zret (v := 1) hx hb hr rfl (fun t ht hW => ⟨jq (by subst ex1; exact (((if_neg c2).trans rfl)).symm), ht⟩) (fun q h => by cases h) dX0_isBelow_21

def h_isTaken (p1 : Int32) (p2 : Int32) (p3 : Int32) : Int32 :=
  if (2 : Int32) ≤ p1 then
    if (6 : Int32) ≤ p1 then
      let x3 : Int32 := h_isBelow p2 p3
      if (p1 &&& (1 : Int32)) = 0 then
        if x3 = (1 : Int32) then
          (1 : Int32)
        else
          (0 : Int32)
      else
        if x3 = (0 : Int32) then
          (1 : Int32)
        else
          (0 : Int32)
    else
      if p3 ≤ p2 then
        if (p1 &&& (1 : Int32)) = 0 then
          (0 : Int32)
        else
          (1 : Int32)
      else
        if (p1 &&& (1 : Int32)) = 0 then
          (1 : Int32)
        else
          (0 : Int32)
  else
    if p2 = p3 then
      if (p1 &&& (1 : Int32)) = 0 then
        (1 : Int32)
      else
        (0 : Int32)
    else
      if (p1 &&& (1 : Int32)) = 0 then
        (0 : Int32)
      else
        (1 : Int32)
set_option maxHeartbeats 4000000 in
set_option maxRecDepth 100000 in
theorem ch_isTaken (l : Launch) (p1 : Int32) (p2 : Int32) (p3 : Int32) : Met l yX0_isTaken (.code yX0_isTaken cX0_isTaken 4 (some .boolean) :: gBIG) ({ frames := 1, cells := 0, slots := 0, locals := 21 }) (va_Pc [.int p1, .int p2, .int p3] (fun _ => True)) (QcRead (h_isTaken p1 p2 p3)) 0 0 (fun _ => False) := by
  refine Met.ofW (cc := cX0_isTaken) (maxL := 4) (ret := (some .boolean)) (by decide) rfl ?_
  intro p e s m args below meth c s₁ B hml hv
  obtain ⟨rfl, -⟩ := hv
  have hx := B.exec
  have hb := B.bytes
  have hr := B.returns
  have hts : ∀ w ∈ gBIG, w.before _ s = true := fun w h => atoms_spec (ws := (.code yX0_isTaken cX0_isTaken 4 (some .boolean) :: gBIG)) B.pre w (List.mem_cons_of_mem _ h)
  have hown : s.vm.findClass "PagedHart" = some m.cls := findClass_of_methodNamed B.named
  have hlocks := B.notSynchronized
  have hl := lv_entry ([.int p1, .int p2, .int p3]) (n := 4) (Nat.le_of_ble_eq_true rfl)
  rw [lg_entry_eq]
  generalize (lg_sl ([.int p1, .int p2, .int p3]) ++ List.replicate (4 - (lg_sl ([.int p1, .int p2, .int p3])).length) Slot.unset).toArray = ls at hl ⊢
  have hl : lv_has ls 4 [(0, .int p1), (1, .int p2), (2, .int p3)] := hl
  refine lv_iload_n hx hb dX0_isTaken_0 rfl (lv_at hl 0 rfl) ?_
  refine lv_iconst (v := 2) hx hb dX0_isTaken_1 (by decide) ?_
  refine lv_icmp_ge (tgt := 19) hx hb dX0_isTaken_2 (by decide) (fun c1 => ?_) (fun c1 => ?_)
  · refine lv_iload_n hx hb dX0_isTaken_19 rfl (lv_at hl 0 rfl) ?_
    refine lv_bipush (v := 6) hx hb dX0_isTaken_20 (by decide) ?_
    refine lv_icmp_ge (tgt := 38) hx hb dX0_isTaken_22 (by decide) (fun c2 => ?_) (fun c2 => ?_)
    · refine lv_iload_n hx hb dX0_isTaken_38 rfl (lv_at hl 1 rfl) ?_
      refine lv_iload_n hx hb dX0_isTaken_39 rfl (lv_at hl 2 rfl) ?_
      refine W.callR (W.runS (As := [.int p2, .int p3]) (rest := []) ⟨hx, hb, hml, hown, hts⟩ (ch_isBelow l p2 p3) (cwS 2 hts (gS mL_0_171 mS_0_isBelow mN_0 mB_0_isBelow) rfl rfl rfl (by decide +kernel) ⟨Nat.le_of_ble_eq_true rfl, Nat.le_of_ble_eq_true rfl⟩) ⟨jblind, fun _ _ _ => ⟨rfl, trivial⟩⟩ rfl rfl hl.1 rfl (lv_room (Nat.le_of_ble_eq_true rfl)) dX0_isTaken_40 ⟨Nat.zero_le _, Nat.zero_le _⟩) ?_
      refine W.eq (g2 := F0 m 43 ls (.int (h_isBelow p2 p3) :: [])) rfl ?_
      refine lv_topi (fun x3 ex3 => ?_)
      refine lv_istore_n (lv' := [(3, .int x3), (0, .int p1), (1, .int p2), (2, .int p3)]) hx hb dX0_isTaken_43 rfl hl (by decide) rfl (fun ls hl => ?_)
      refine lv_iload_n hx hb dX0_isTaken_44 rfl (lv_at hl 0 rfl) ?_
      refine lv_iload_n hx hb dX0_isTaken_45 rfl (lv_at hl 1 rfl) ?_
      refine lv_iconst (v := 1) hx hb dX0_isTaken_46 (by decide) ?_
      refine lv_iand hx hb dX0_isTaken_47 ?_
      refine lv_if_ne (tgt := 55) hx hb dX0_isTaken_48 (by decide) (fun c4 => ?_) (fun c4 => ?_)
      · refine lv_iconst (v := 0) hx hb dX0_isTaken_55 (by decide) ?_
        refine lv_icmp_ne (tgt := 63) hx hb dX0_isTaken_56 (by decide) (fun c5 => ?_) (fun c5 => ?_)
        · refine lv_iconst (v := 0) hx hb dX0_isTaken_63 (by decide) ?_
          exact W.zret (v := 0) hx hb hr rfl (fun t ht hW => ⟨jq (by subst ex3; exact (((if_pos c1).trans ((if_pos c2).trans ((if_neg c4).trans ((if_neg c5).trans rfl))))).symm), ht⟩) (fun q h => by cases h) dX0_isTaken_64
        · refine lv_iconst (v := 1) hx hb dX0_isTaken_59 (by decide) ?_
          refine lv_goto (tgt := 64) hx hb dX0_isTaken_60 (by decide) ?_
          exact W.zret (v := 1) hx hb hr rfl (fun t ht hW => ⟨jq (by subst ex3; exact (((if_pos c1).trans ((if_pos c2).trans ((if_neg c4).trans ((if_pos c5).trans rfl))))).symm), ht⟩) (fun q h => by cases h) dX0_isTaken_64
      · refine lv_iconst (v := 1) hx hb dX0_isTaken_51 (by decide) ?_
        refine lv_goto (tgt := 56) hx hb dX0_isTaken_52 (by decide) ?_
        refine lv_icmp_ne (tgt := 63) hx hb dX0_isTaken_56 (by decide) (fun c6 => ?_) (fun c6 => ?_)
        · refine lv_iconst (v := 0) hx hb dX0_isTaken_63 (by decide) ?_
          exact W.zret (v := 0) hx hb hr rfl (fun t ht hW => ⟨jq (by subst ex3; exact (((if_pos c1).trans ((if_pos c2).trans ((if_pos c4).trans ((if_neg c6).trans rfl))))).symm), ht⟩) (fun q h => by cases h) dX0_isTaken_64
        · refine lv_iconst (v := 1) hx hb dX0_isTaken_59 (by decide) ?_
          refine lv_goto (tgt := 64) hx hb dX0_isTaken_60 (by decide) ?_
          exact W.zret (v := 1) hx hb hr rfl (fun t ht hW => ⟨jq (by subst ex3; exact (((if_pos c1).trans ((if_pos c2).trans ((if_pos c4).trans ((if_pos c6).trans rfl))))).symm), ht⟩) (fun q h => by cases h) dX0_isTaken_64
    · refine lv_iload_n hx hb dX0_isTaken_25 rfl (lv_at hl 1 rfl) ?_
      refine lv_iload_n hx hb dX0_isTaken_26 rfl (lv_at hl 2 rfl) ?_
      refine lv_icmp_ge (tgt := 34) hx hb dX0_isTaken_27 (by decide) (fun c7 => ?_) (fun c7 => ?_)
      · refine lv_iconst (v := 0) hx hb dX0_isTaken_34 (by decide) ?_
        refine lv_goto (tgt := 43) hx hb dX0_isTaken_35 (by decide) ?_
        refine lv_istore_n (lv' := [(3, .int 0), (0, .int p1), (1, .int p2), (2, .int p3)]) hx hb dX0_isTaken_43 rfl hl (by decide) rfl (fun ls hl => ?_)
        refine lv_iload_n hx hb dX0_isTaken_44 rfl (lv_at hl 0 rfl) ?_
        refine lv_iload_n hx hb dX0_isTaken_45 rfl (lv_at hl 1 rfl) ?_
        refine lv_iconst (v := 1) hx hb dX0_isTaken_46 (by decide) ?_
        refine lv_iand hx hb dX0_isTaken_47 ?_
        refine lv_if_ne (tgt := 55) hx hb dX0_isTaken_48 (by decide) (fun c8 => ?_) (fun c8 => ?_)
        · refine lv_iconst (v := 0) hx hb dX0_isTaken_55 (by decide) ?_
          refine lv_icmp_ne (tgt := 63) hx hb dX0_isTaken_56 (by decide) (fun c9 => ?_) (fun c9 => ?_)
          · exact (c9 (by decide)).elim
          · refine lv_iconst (v := 1) hx hb dX0_isTaken_59 (by decide) ?_
            refine lv_goto (tgt := 64) hx hb dX0_isTaken_60 (by decide) ?_
            exact W.zret (v := 1) hx hb hr rfl (fun t ht hW => ⟨jq (by exact (((if_pos c1).trans ((if_neg c2).trans ((if_pos c7).trans ((if_neg c8).trans rfl))))).symm), ht⟩) (fun q h => by cases h) dX0_isTaken_64
        · refine lv_iconst (v := 1) hx hb dX0_isTaken_51 (by decide) ?_
          refine lv_goto (tgt := 56) hx hb dX0_isTaken_52 (by decide) ?_
          refine lv_icmp_ne (tgt := 63) hx hb dX0_isTaken_56 (by decide) (fun c10 => ?_) (fun c10 => ?_)
          · refine lv_iconst (v := 0) hx hb dX0_isTaken_63 (by decide) ?_
            exact W.zret (v := 0) hx hb hr rfl (fun t ht hW => ⟨jq (by exact (((if_pos c1).trans ((if_neg c2).trans ((if_pos c7).trans ((if_pos c8).trans rfl))))).symm), ht⟩) (fun q h => by cases h) dX0_isTaken_64
          · exact absurd c10 (by decide)
      · refine lv_iconst (v := 1) hx hb dX0_isTaken_30 (by decide) ?_
        refine lv_goto (tgt := 43) hx hb dX0_isTaken_31 (by decide) ?_
        refine lv_istore_n (lv' := [(3, .int 1), (0, .int p1), (1, .int p2), (2, .int p3)]) hx hb dX0_isTaken_43 rfl hl (by decide) rfl (fun ls hl => ?_)
        refine lv_iload_n hx hb dX0_isTaken_44 rfl (lv_at hl 0 rfl) ?_
        refine lv_iload_n hx hb dX0_isTaken_45 rfl (lv_at hl 1 rfl) ?_
        refine lv_iconst (v := 1) hx hb dX0_isTaken_46 (by decide) ?_
        refine lv_iand hx hb dX0_isTaken_47 ?_
        refine lv_if_ne (tgt := 55) hx hb dX0_isTaken_48 (by decide) (fun c11 => ?_) (fun c11 => ?_)
        · refine lv_iconst (v := 0) hx hb dX0_isTaken_55 (by decide) ?_
          refine lv_icmp_ne (tgt := 63) hx hb dX0_isTaken_56 (by decide) (fun c12 => ?_) (fun c12 => ?_)
          · refine lv_iconst (v := 0) hx hb dX0_isTaken_63 (by decide) ?_
            exact W.zret (v := 0) hx hb hr rfl (fun t ht hW => ⟨jq (by exact (((if_pos c1).trans ((if_neg c2).trans ((if_neg c7).trans ((if_neg c11).trans rfl))))).symm), ht⟩) (fun q h => by cases h) dX0_isTaken_64
          · exact absurd c12 (by decide)
        · refine lv_iconst (v := 1) hx hb dX0_isTaken_51 (by decide) ?_
          refine lv_goto (tgt := 56) hx hb dX0_isTaken_52 (by decide) ?_
          refine lv_icmp_ne (tgt := 63) hx hb dX0_isTaken_56 (by decide) (fun c13 => ?_) (fun c13 => ?_)
          · exact (c13 (by decide)).elim
          · refine lv_iconst (v := 1) hx hb dX0_isTaken_59 (by decide) ?_
            refine lv_goto (tgt := 64) hx hb dX0_isTaken_60 (by decide) ?_
            exact W.zret (v := 1) hx hb hr rfl (fun t ht hW => ⟨jq (by exact (((if_pos c1).trans ((if_neg c2).trans ((if_neg c7).trans ((if_pos c11).trans rfl))))).symm), ht⟩) (fun q h => by cases h) dX0_isTaken_64
  · refine lv_iload_n hx hb dX0_isTaken_5 rfl (lv_at hl 1 rfl) ?_
    refine lv_iload_n hx hb dX0_isTaken_6 rfl (lv_at hl 2 rfl) ?_
    refine lv_icmp_ne (tgt := 14) hx hb dX0_isTaken_7 (by decide) (fun c14 => ?_) (fun c14 => ?_)
    · refine lv_iconst (v := 0) hx hb dX0_isTaken_14 (by decide) ?_
      refine lv_istore_n (lv' := [(3, .int 0), (0, .int p1), (1, .int p2), (2, .int p3)]) hx hb dX0_isTaken_15 rfl hl (by decide) rfl (fun ls hl => ?_)
      refine lv_goto (tgt := 44) hx hb dX0_isTaken_16 (by decide) ?_
      refine lv_iload_n hx hb dX0_isTaken_44 rfl (lv_at hl 0 rfl) ?_
      refine lv_iload_n hx hb dX0_isTaken_45 rfl (lv_at hl 1 rfl) ?_
      refine lv_iconst (v := 1) hx hb dX0_isTaken_46 (by decide) ?_
      refine lv_iand hx hb dX0_isTaken_47 ?_
      refine lv_if_ne (tgt := 55) hx hb dX0_isTaken_48 (by decide) (fun c15 => ?_) (fun c15 => ?_)
      · refine lv_iconst (v := 0) hx hb dX0_isTaken_55 (by decide) ?_
        refine lv_icmp_ne (tgt := 63) hx hb dX0_isTaken_56 (by decide) (fun c16 => ?_) (fun c16 => ?_)
        · exact (c16 (by decide)).elim
        · refine lv_iconst (v := 1) hx hb dX0_isTaken_59 (by decide) ?_
          refine lv_goto (tgt := 64) hx hb dX0_isTaken_60 (by decide) ?_
          exact W.zret (v := 1) hx hb hr rfl (fun t ht hW => ⟨jq (by exact (((if_neg c1).trans ((if_neg c14).trans ((if_neg c15).trans rfl)))).symm), ht⟩) (fun q h => by cases h) dX0_isTaken_64
      · refine lv_iconst (v := 1) hx hb dX0_isTaken_51 (by decide) ?_
        refine lv_goto (tgt := 56) hx hb dX0_isTaken_52 (by decide) ?_
        refine lv_icmp_ne (tgt := 63) hx hb dX0_isTaken_56 (by decide) (fun c17 => ?_) (fun c17 => ?_)
        · refine lv_iconst (v := 0) hx hb dX0_isTaken_63 (by decide) ?_
          exact W.zret (v := 0) hx hb hr rfl (fun t ht hW => ⟨jq (by exact (((if_neg c1).trans ((if_neg c14).trans ((if_pos c15).trans rfl)))).symm), ht⟩) (fun q h => by cases h) dX0_isTaken_64
        · exact absurd c17 (by decide)
    · refine lv_iconst (v := 1) hx hb dX0_isTaken_10 (by decide) ?_
      refine lv_goto (tgt := 15) hx hb dX0_isTaken_11 (by decide) ?_
      refine lv_istore_n (lv' := [(3, .int 1), (0, .int p1), (1, .int p2), (2, .int p3)]) hx hb dX0_isTaken_15 rfl hl (by decide) rfl (fun ls hl => ?_)
      refine lv_goto (tgt := 44) hx hb dX0_isTaken_16 (by decide) ?_
      refine lv_iload_n hx hb dX0_isTaken_44 rfl (lv_at hl 0 rfl) ?_
      refine lv_iload_n hx hb dX0_isTaken_45 rfl (lv_at hl 1 rfl) ?_
      refine lv_iconst (v := 1) hx hb dX0_isTaken_46 (by decide) ?_
      refine lv_iand hx hb dX0_isTaken_47 ?_
      refine lv_if_ne (tgt := 55) hx hb dX0_isTaken_48 (by decide) (fun c18 => ?_) (fun c18 => ?_)
      · refine lv_iconst (v := 0) hx hb dX0_isTaken_55 (by decide) ?_
        refine lv_icmp_ne (tgt := 63) hx hb dX0_isTaken_56 (by decide) (fun c19 => ?_) (fun c19 => ?_)
        · refine lv_iconst (v := 0) hx hb dX0_isTaken_63 (by decide) ?_
          exact W.zret (v := 0) hx hb hr rfl (fun t ht hW => ⟨jq (by exact (((if_neg c1).trans ((if_pos c14).trans ((if_neg c18).trans rfl)))).symm), ht⟩) (fun q h => by cases h) dX0_isTaken_64
        · exact absurd c19 (by decide)
      · refine lv_iconst (v := 1) hx hb dX0_isTaken_51 (by decide) ?_
        refine lv_goto (tgt := 56) hx hb dX0_isTaken_52 (by decide) ?_
        refine lv_icmp_ne (tgt := 63) hx hb dX0_isTaken_56 (by decide) (fun c20 => ?_) (fun c20 => ?_)
        · exact (c20 (by decide)).elim
        · refine lv_iconst (v := 1) hx hb dX0_isTaken_59 (by decide) ?_
          refine lv_goto (tgt := 64) hx hb dX0_isTaken_60 (by decide) ?_
          exact W.zret (v := 1) hx hb hr rfl (fun t ht hW => ⟨jq (by exact (((if_neg c1).trans ((if_pos c14).trans ((if_pos c18).trans rfl)))).symm), ht⟩) (fun q h => by cases h) dX0_isTaken_64

def h_extend (p1 : Int32) (p2 : Int32) : Int32 :=
  if p1 = 0 then
    ((p2 <<< ((24 : Int32) &&& 31)) >>> ((24 : Int32) &&& 31))
  else
    if p1 = 1 then
      ((p2 <<< ((16 : Int32) &&& 31)) >>> ((16 : Int32) &&& 31))
    else
      if p1 = 2 then
        p2
      else
        if p1 = 3 then
          p2
        else
          if p1 = 4 then
            (p2 &&& (255 : Int32))
          else
            if p1 = 5 then
              (p2 &&& (65535 : Int32))
            else
              p2
set_option maxHeartbeats 4000000 in
set_option maxRecDepth 100000 in
theorem ch_extend (l : Launch) (p1 : Int32) (p2 : Int32) : Met l yX0_extend (.code yX0_extend cX0_extend 2 (some .int) :: gBIG) ({ frames := 0, cells := 0, slots := 0, locals := 0 }) (va_Pc [.int p1, .int p2] (fun _ => True)) (QcRead (h_extend p1 p2)) 0 0 (fun _ => False) := by
  refine Met.ofW (cc := cX0_extend) (maxL := 2) (ret := (some .int)) (by decide) rfl ?_
  intro p e s m args below meth c s₁ B hml hv
  obtain ⟨rfl, -⟩ := hv
  have hx := B.exec
  have hb := B.bytes
  have hr := B.returns
  have hts : ∀ w ∈ gBIG, w.before _ s = true := fun w h => atoms_spec (ws := (.code yX0_extend cX0_extend 2 (some .int) :: gBIG)) B.pre w (List.mem_cons_of_mem _ h)
  have hown : s.vm.findClass "PagedHart" = some m.cls := findClass_of_methodNamed B.named
  have hlocks := B.notSynchronized
  have hl := lv_entry ([.int p1, .int p2]) (n := 2) (Nat.le_of_ble_eq_true rfl)
  rw [lg_entry_eq]
  generalize (lg_sl ([.int p1, .int p2]) ++ List.replicate (2 - (lg_sl ([.int p1, .int p2])).length) Slot.unset).toArray = ls at hl ⊢
  have hl : lv_has ls 2 [(0, .int p1), (1, .int p2)] := hl
  refine lv_iload_n hx hb dX0_extend_0 rfl (lv_at hl 0 rfl) ?_
  by_cases c1 : p1 = 0
  · refine lv_tableIn (tgt := 40) (off := 39) hx hb dX0_extend_1 (by rw [c1]; decide) (by rw [c1]; decide) (by rw [c1]; decide) (by decide) ?_
    refine lv_iload_n hx hb dX0_extend_40 rfl (lv_at hl 1 rfl) ?_
    refine lv_bipush (v := 24) hx hb dX0_extend_41 (by decide) ?_
    refine lv_ishl hx hb dX0_extend_43 ?_
    refine lv_bipush (v := 24) hx hb dX0_extend_44 (by decide) ?_
    refine lv_ishr hx hb dX0_extend_46 ?_
    exact W.iret (v := (p2 <<< ((24 : Int32) &&& 31)) >>> ((24 : Int32) &&& 31)) hx hb hr (fun t ht hW => ⟨jq (by exact (((if_pos c1).trans rfl)).symm), ht⟩) (fun q h => by cases h) dX0_extend_47
  by_cases c2 : p1 = 1
  · refine lv_tableIn (tgt := 48) (off := 47) hx hb dX0_extend_1 (by rw [c2]; decide) (by rw [c2]; decide) (by rw [c2]; decide) (by decide) ?_
    refine lv_iload_n hx hb dX0_extend_48 rfl (lv_at hl 1 rfl) ?_
    refine lv_bipush (v := 16) hx hb dX0_extend_49 (by decide) ?_
    refine lv_ishl hx hb dX0_extend_51 ?_
    refine lv_bipush (v := 16) hx hb dX0_extend_52 (by decide) ?_
    refine lv_ishr hx hb dX0_extend_54 ?_
    exact W.iret (v := (p2 <<< ((16 : Int32) &&& 31)) >>> ((16 : Int32) &&& 31)) hx hb hr (fun t ht hW => ⟨jq (by exact (((if_neg c1).trans ((if_pos c2).trans rfl))).symm), ht⟩) (fun q h => by cases h) dX0_extend_55
  by_cases c3 : p1 = 2
  · refine lv_tableIn (tgt := 67) (off := 66) hx hb dX0_extend_1 (by rw [c3]; decide) (by rw [c3]; decide) (by rw [c3]; decide) (by decide) ?_
    refine lv_iload_n hx hb dX0_extend_67 rfl (lv_at hl 1 rfl) ?_
    exact W.iret (v := p2) hx hb hr (fun t ht hW => ⟨jq (by exact (((if_neg c1).trans ((if_neg c2).trans ((if_pos c3).trans rfl)))).symm), ht⟩) (fun q h => by cases h) dX0_extend_68
  by_cases c4 : p1 = 3
  · refine lv_tableIn (tgt := 67) (off := 66) hx hb dX0_extend_1 (by rw [c4]; decide) (by rw [c4]; decide) (by rw [c4]; decide) (by decide) ?_
    refine lv_iload_n hx hb dX0_extend_67 rfl (lv_at hl 1 rfl) ?_
    exact W.iret (v := p2) hx hb hr (fun t ht hW => ⟨jq (by exact (((if_neg c1).trans ((if_neg c2).trans ((if_neg c3).trans ((if_pos c4).trans rfl))))).symm), ht⟩) (fun q h => by cases h) dX0_extend_68
  by_cases c5 : p1 = 4
  · refine lv_tableIn (tgt := 56) (off := 55) hx hb dX0_extend_1 (by rw [c5]; decide) (by rw [c5]; decide) (by rw [c5]; decide) (by decide) ?_
    refine lv_iload_n hx hb dX0_extend_56 rfl (lv_at hl 1 rfl) ?_
    refine lv_sipush (v := 255) hx hb dX0_extend_57 (by decide) ?_
    refine lv_iand hx hb dX0_extend_60 ?_
    exact W.iret (v := p2 &&& (255 : Int32)) hx hb hr (fun t ht hW => ⟨jq (by exact (((if_neg c1).trans ((if_neg c2).trans ((if_neg c3).trans ((if_neg c4).trans ((if_pos c5).trans rfl)))))).symm), ht⟩) (fun q h => by cases h) dX0_extend_61
  by_cases c6 : p1 = 5
  · refine lv_tableIn (tgt := 62) (off := 61) hx hb dX0_extend_1 (by rw [c6]; decide) (by rw [c6]; decide) (by rw [c6]; decide) (by decide) ?_
    refine lv_iload_n hx hb dX0_extend_62 rfl (lv_at hl 1 rfl) ?_
    refine lv_ldc (v := 65535) hx hb hown (hts _ mC_0_179) dX0_extend_63 ?_
    refine lv_iand hx hb dX0_extend_65 ?_
    exact W.iret (v := p2 &&& (65535 : Int32)) hx hb hr (fun t ht hW => ⟨jq (by exact (((if_neg c1).trans ((if_neg c2).trans ((if_neg c3).trans ((if_neg c4).trans ((if_neg c5).trans ((if_pos c6).trans rfl))))))).symm), ht⟩) (fun q h => by cases h) dX0_extend_66
  refine lv_tableOut (tgt := 67) hx hb dX0_extend_1 (by have := lv_neT (k := 0) (a := 0) c1 (by decide); have := lv_neT (k := 1) (a := 1) c2 (by decide); have := lv_neT (k := 2) (a := 2) c3 (by decide); have := lv_neT (k := 3) (a := 3) c4 (by decide); have := lv_neT (k := 4) (a := 4) c5 (by decide); have := lv_neT (k := 5) (a := 5) c6 (by decide); omega) (by decide) ?_
  refine lv_iload_n hx hb dX0_extend_67 rfl (lv_at hl 1 rfl) ?_
  exact W.iret (v := p2) hx hb hr (fun t ht hW => ⟨jq (by exact (((if_neg c1).trans ((if_neg c2).trans ((if_neg c3).trans ((if_neg c4).trans ((if_neg c5).trans ((if_neg c6).trans rfl))))))).symm), ht⟩) (fun q h => by cases h) dX0_extend_68

def h_maskOf (p1 : Int32) : Int32 :=
  if p1 = 0 then
    (255 : Int32)
  else
    if p1 = (1 : Int32) then
      (65535 : Int32)
    else
      ((-1) : Int32)
set_option maxHeartbeats 4000000 in
set_option maxRecDepth 100000 in
theorem ch_maskOf (l : Launch) (p1 : Int32) : Met l yX0_maskOf (.code yX0_maskOf cX0_maskOf 1 (some .int) :: gBIG) ({ frames := 0, cells := 0, slots := 0, locals := 0 }) (va_Pc [.int p1] (fun _ => True)) (QcRead (h_maskOf p1)) 0 0 (fun _ => False) := by
  refine Met.ofW (cc := cX0_maskOf) (maxL := 1) (ret := (some .int)) (by decide) rfl ?_
  intro p e s m args below meth c s₁ B hml hv
  obtain ⟨rfl, -⟩ := hv
  have hx := B.exec
  have hb := B.bytes
  have hr := B.returns
  have hts : ∀ w ∈ gBIG, w.before _ s = true := fun w h => atoms_spec (ws := (.code yX0_maskOf cX0_maskOf 1 (some .int) :: gBIG)) B.pre w (List.mem_cons_of_mem _ h)
  have hown : s.vm.findClass "PagedHart" = some m.cls := findClass_of_methodNamed B.named
  have hlocks := B.notSynchronized
  have hl := lv_entry ([.int p1]) (n := 1) (Nat.le_of_ble_eq_true rfl)
  rw [lg_entry_eq]
  generalize (lg_sl ([.int p1]) ++ List.replicate (1 - (lg_sl ([.int p1])).length) Slot.unset).toArray = ls at hl ⊢
  have hl : lv_has ls 1 [(0, .int p1)] := hl
  refine lv_iload_n hx hb dX0_maskOf_0 rfl (lv_at hl 0 rfl) ?_
  refine lv_if_ne (tgt := 8) hx hb dX0_maskOf_1 (by decide) (fun c1 => ?_) (fun c1 => ?_)
  · refine lv_iload_n hx hb dX0_maskOf_8 rfl (lv_at hl 0 rfl) ?_
    refine lv_iconst (v := 1) hx hb dX0_maskOf_9 (by decide) ?_
    refine lv_icmp_ne (tgt := 18) hx hb dX0_maskOf_10 (by decide) (fun c2 => ?_) (fun c2 => ?_)
    · refine lv_iconst (v := (-1)) hx hb dX0_maskOf_18 (by decide) ?_
      exact W.iret (v := (-1)) hx hb hr (fun t ht hW => ⟨jq (by exact (((if_neg c1).trans ((if_neg c2).trans rfl))).symm), ht⟩) (fun q h => by cases h) dX0_maskOf_19
    · refine lv_ldc (v := 65535) hx hb hown (hts _ mC_0_179) dX0_maskOf_13 ?_
      refine lv_goto (tgt := 19) hx hb dX0_maskOf_15 (by decide) ?_
      exact W.iret (v := 65535) hx hb hr (fun t ht hW => ⟨jq (by exact (((if_neg c1).trans ((if_pos c2).trans rfl))).symm), ht⟩) (fun q h => by cases h) dX0_maskOf_19
  · refine lv_sipush (v := 255) hx hb dX0_maskOf_4 (by decide) ?_
    exact W.iret (v := 255) hx hb hr (fun t ht hW => ⟨jq (by exact (((if_pos c1).trans rfl)).symm), ht⟩) (fun q h => by cases h) dX0_maskOf_7

def h_calculate (p1 : Int32) (p2 : Int32) (p3 : Int32) : Int32 :=
  if p1 = 0 then
    (p2 + p3)
  else
    if p1 = 1 then
      (p2 <<< ((p3 &&& (31 : Int32)) &&& 31))
    else
      if p1 = 2 then
        if p3 ≤ p2 then
          (0 : Int32)
        else
          (1 : Int32)
      else
        if p1 = 3 then
          let x6 : Int32 := h_isBelow p2 p3
          if x6 = 0 then
            (0 : Int32)
          else
            (1 : Int32)
        else
          if p1 = 4 then
            (p2 ^^^ p3)
          else
            if p1 = 5 then
              (jush p2 (p3 &&& (31 : Int32)))
            else
              if p1 = 6 then
                (p2 ||| p3)
              else
                (p2 &&& p3)
set_option maxHeartbeats 4000000 in
set_option maxRecDepth 100000 in
theorem ch_calculate (l : Launch) (p1 : Int32) (p2 : Int32) (p3 : Int32) : Met l yX0_calculate (.code yX0_calculate cX0_calculate 3 (some .int) :: gBIG) ({ frames := 1, cells := 0, slots := 0, locals := 21 }) (va_Pc [.int p1, .int p2, .int p3] (fun _ => True)) (QcRead (h_calculate p1 p2 p3)) 0 0 (fun _ => False) := by
  refine Met.ofW (cc := cX0_calculate) (maxL := 3) (ret := (some .int)) (by decide) rfl ?_
  intro p e s m args below meth c s₁ B hml hv
  obtain ⟨rfl, -⟩ := hv
  have hx := B.exec
  have hb := B.bytes
  have hr := B.returns
  have hts : ∀ w ∈ gBIG, w.before _ s = true := fun w h => atoms_spec (ws := (.code yX0_calculate cX0_calculate 3 (some .int) :: gBIG)) B.pre w (List.mem_cons_of_mem _ h)
  have hown : s.vm.findClass "PagedHart" = some m.cls := findClass_of_methodNamed B.named
  have hlocks := B.notSynchronized
  have hl := lv_entry ([.int p1, .int p2, .int p3]) (n := 3) (Nat.le_of_ble_eq_true rfl)
  rw [lg_entry_eq]
  generalize (lg_sl ([.int p1, .int p2, .int p3]) ++ List.replicate (3 - (lg_sl ([.int p1, .int p2, .int p3])).length) Slot.unset).toArray = ls at hl ⊢
  have hl : lv_has ls 3 [(0, .int p1), (1, .int p2), (2, .int p3)] := hl
  refine lv_iload_n hx hb dX0_calculate_0 rfl (lv_at hl 0 rfl) ?_
  by_cases c1 : p1 = 0
  · refine lv_tableIn (tgt := 44) (off := 43) hx hb dX0_calculate_1 (by rw [c1]; decide) (by rw [c1]; decide) (by rw [c1]; decide) (by decide) ?_
    refine lv_iload_n hx hb dX0_calculate_44 rfl (lv_at hl 1 rfl) ?_
    refine lv_iload_n hx hb dX0_calculate_45 rfl (lv_at hl 2 rfl) ?_
    refine lv_iadd hx hb dX0_calculate_46 ?_
    exact W.iret (v := p2 + p3) hx hb hr (fun t ht hW => ⟨jq (by exact (((if_pos c1).trans rfl)).symm), ht⟩) (fun q h => by cases h) dX0_calculate_47
  by_cases c2 : p1 = 1
  · refine lv_tableIn (tgt := 48) (off := 47) hx hb dX0_calculate_1 (by rw [c2]; decide) (by rw [c2]; decide) (by rw [c2]; decide) (by decide) ?_
    refine lv_iload_n hx hb dX0_calculate_48 rfl (lv_at hl 1 rfl) ?_
    refine lv_iload_n hx hb dX0_calculate_49 rfl (lv_at hl 2 rfl) ?_
    refine lv_bipush (v := 31) hx hb dX0_calculate_50 (by decide) ?_
    refine lv_iand hx hb dX0_calculate_52 ?_
    refine lv_ishl hx hb dX0_calculate_53 ?_
    exact W.iret (v := p2 <<< ((p3 &&& (31 : Int32)) &&& 31)) hx hb hr (fun t ht hW => ⟨jq (by exact (((if_neg c1).trans ((if_pos c2).trans rfl))).symm), ht⟩) (fun q h => by cases h) dX0_calculate_54
  by_cases c3 : p1 = 2
  · refine lv_tableIn (tgt := 55) (off := 54) hx hb dX0_calculate_1 (by rw [c3]; decide) (by rw [c3]; decide) (by rw [c3]; decide) (by decide) ?_
    refine lv_iload_n hx hb dX0_calculate_55 rfl (lv_at hl 1 rfl) ?_
    refine lv_iload_n hx hb dX0_calculate_56 rfl (lv_at hl 2 rfl) ?_
    refine lv_icmp_ge (tgt := 64) hx hb dX0_calculate_57 (by decide) (fun c4 => ?_) (fun c4 => ?_)
    · refine lv_iconst (v := 0) hx hb dX0_calculate_64 (by decide) ?_
      exact W.iret (v := 0) hx hb hr (fun t ht hW => ⟨jq (by exact (((if_neg c1).trans ((if_neg c2).trans ((if_pos c3).trans ((if_pos c4).trans rfl))))).symm), ht⟩) (fun q h => by cases h) dX0_calculate_65
    · refine lv_iconst (v := 1) hx hb dX0_calculate_60 (by decide) ?_
      refine lv_goto (tgt := 65) hx hb dX0_calculate_61 (by decide) ?_
      exact W.iret (v := 1) hx hb hr (fun t ht hW => ⟨jq (by exact (((if_neg c1).trans ((if_neg c2).trans ((if_pos c3).trans ((if_neg c4).trans rfl))))).symm), ht⟩) (fun q h => by cases h) dX0_calculate_65
  by_cases c5 : p1 = 3
  · refine lv_tableIn (tgt := 66) (off := 65) hx hb dX0_calculate_1 (by rw [c5]; decide) (by rw [c5]; decide) (by rw [c5]; decide) (by decide) ?_
    refine lv_iload_n hx hb dX0_calculate_66 rfl (lv_at hl 1 rfl) ?_
    refine lv_iload_n hx hb dX0_calculate_67 rfl (lv_at hl 2 rfl) ?_
    refine W.callR (W.runS (As := [.int p2, .int p3]) (rest := []) ⟨hx, hb, hml, hown, hts⟩ (ch_isBelow l p2 p3) (cwS 2 hts (gS mL_0_171 mS_0_isBelow mN_0 mB_0_isBelow) rfl rfl rfl (by decide +kernel) ⟨Nat.le_of_ble_eq_true rfl, Nat.le_of_ble_eq_true rfl⟩) ⟨jblind, fun _ _ _ => ⟨rfl, trivial⟩⟩ rfl rfl hl.1 rfl (lv_room (Nat.le_of_ble_eq_true rfl)) dX0_calculate_68 ⟨Nat.zero_le _, Nat.zero_le _⟩) ?_
    refine W.eq (g2 := F0 m 71 ls (.int (h_isBelow p2 p3) :: [])) rfl ?_
    refine lv_topi (fun x6 ex6 => ?_)
    refine lv_if_eq (tgt := 78) hx hb dX0_calculate_71 (by decide) (fun c7 => ?_) (fun c7 => ?_)
    · refine lv_iconst (v := 0) hx hb dX0_calculate_78 (by decide) ?_
      exact W.iret (v := 0) hx hb hr (fun t ht hW => ⟨jq (by subst ex6; exact (((if_neg c1).trans ((if_neg c2).trans ((if_neg c3).trans ((if_pos c5).trans ((if_pos c7).trans rfl)))))).symm), ht⟩) (fun q h => by cases h) dX0_calculate_79
    · refine lv_iconst (v := 1) hx hb dX0_calculate_74 (by decide) ?_
      refine lv_goto (tgt := 79) hx hb dX0_calculate_75 (by decide) ?_
      exact W.iret (v := 1) hx hb hr (fun t ht hW => ⟨jq (by subst ex6; exact (((if_neg c1).trans ((if_neg c2).trans ((if_neg c3).trans ((if_pos c5).trans ((if_neg c7).trans rfl)))))).symm), ht⟩) (fun q h => by cases h) dX0_calculate_79
  by_cases c8 : p1 = 4
  · refine lv_tableIn (tgt := 80) (off := 79) hx hb dX0_calculate_1 (by rw [c8]; decide) (by rw [c8]; decide) (by rw [c8]; decide) (by decide) ?_
    refine lv_iload_n hx hb dX0_calculate_80 rfl (lv_at hl 1 rfl) ?_
    refine lv_iload_n hx hb dX0_calculate_81 rfl (lv_at hl 2 rfl) ?_
    refine lv_ixor hx hb dX0_calculate_82 ?_
    exact W.iret (v := p2 ^^^ p3) hx hb hr (fun t ht hW => ⟨jq (by exact (((if_neg c1).trans ((if_neg c2).trans ((if_neg c3).trans ((if_neg c5).trans ((if_pos c8).trans rfl)))))).symm), ht⟩) (fun q h => by cases h) dX0_calculate_83
  by_cases c9 : p1 = 5
  · refine lv_tableIn (tgt := 84) (off := 83) hx hb dX0_calculate_1 (by rw [c9]; decide) (by rw [c9]; decide) (by rw [c9]; decide) (by decide) ?_
    refine lv_iload_n hx hb dX0_calculate_84 rfl (lv_at hl 1 rfl) ?_
    refine lv_iload_n hx hb dX0_calculate_85 rfl (lv_at hl 2 rfl) ?_
    refine lv_bipush (v := 31) hx hb dX0_calculate_86 (by decide) ?_
    refine lv_iand hx hb dX0_calculate_88 ?_
    refine lv_iushr (v := jush p2 (p3 &&& (31 : Int32))) hx hb dX0_calculate_89 rfl ?_
    exact W.iret (v := jush p2 (p3 &&& (31 : Int32))) hx hb hr (fun t ht hW => ⟨jq (by exact (((if_neg c1).trans ((if_neg c2).trans ((if_neg c3).trans ((if_neg c5).trans ((if_neg c8).trans ((if_pos c9).trans rfl))))))).symm), ht⟩) (fun q h => by cases h) dX0_calculate_90
  by_cases c10 : p1 = 6
  · refine lv_tableIn (tgt := 91) (off := 90) hx hb dX0_calculate_1 (by rw [c10]; decide) (by rw [c10]; decide) (by rw [c10]; decide) (by decide) ?_
    refine lv_iload_n hx hb dX0_calculate_91 rfl (lv_at hl 1 rfl) ?_
    refine lv_iload_n hx hb dX0_calculate_92 rfl (lv_at hl 2 rfl) ?_
    refine lv_ior hx hb dX0_calculate_93 ?_
    exact W.iret (v := p2 ||| p3) hx hb hr (fun t ht hW => ⟨jq (by exact (((if_neg c1).trans ((if_neg c2).trans ((if_neg c3).trans ((if_neg c5).trans ((if_neg c8).trans ((if_neg c9).trans ((if_pos c10).trans rfl)))))))).symm), ht⟩) (fun q h => by cases h) dX0_calculate_94
  refine lv_tableOut (tgt := 95) hx hb dX0_calculate_1 (by have := lv_neT (k := 0) (a := 0) c1 (by decide); have := lv_neT (k := 1) (a := 1) c2 (by decide); have := lv_neT (k := 2) (a := 2) c3 (by decide); have := lv_neT (k := 3) (a := 3) c5 (by decide); have := lv_neT (k := 4) (a := 4) c8 (by decide); have := lv_neT (k := 5) (a := 5) c9 (by decide); have := lv_neT (k := 6) (a := 6) c10 (by decide); omega) (by decide) ?_
  refine lv_iload_n hx hb dX0_calculate_95 rfl (lv_at hl 1 rfl) ?_
  refine lv_iload_n hx hb dX0_calculate_96 rfl (lv_at hl 2 rfl) ?_
  refine lv_iand hx hb dX0_calculate_97 ?_
  exact W.iret (v := p2 &&& p3) hx hb hr (fun t ht hW => ⟨jq (by exact (((if_neg c1).trans ((if_neg c2).trans ((if_neg c3).trans ((if_neg c5).trans ((if_neg c8).trans ((if_neg c9).trans ((if_neg c10).trans rfl)))))))).symm), ht⟩) (fun q h => by cases h) dX0_calculate_98

def h_multiply (p1 : Int32) (p2 : Int32) (p3 : Int32) : Int32 :=
  if p1 = 0 then
    (p2 * p3)
  else
    if p1 = 1 then
      (((p2.toInt64 * p3.toInt64) >>> ((32 : Int32).toInt64 &&& 63)).toInt32)
    else
      if p1 = 2 then
        let y4 : Int64 := (p2.toInt64 * (p3.toInt64 &&& (4294967295 : Int64))) >>> ((32 : Int32).toInt64 &&& 63)
        y4.toInt32
      else
        let y5 : Int64 := (p2.toInt64 &&& (4294967295 : Int64)) * (p3.toInt64 &&& (4294967295 : Int64))
        ((jlush y5 (32 : Int32)).toInt32)
set_option maxHeartbeats 4000000 in
set_option maxRecDepth 100000 in
theorem ch_multiply (l : Launch) (p1 : Int32) (p2 : Int32) (p3 : Int32) : Met l yX0_multiply (.code yX0_multiply cX0_multiply 3 (some .int) :: gBIG) ({ frames := 0, cells := 0, slots := 0, locals := 0 }) (va_Pc [.int p1, .int p2, .int p3] (fun _ => True)) (QcRead (h_multiply p1 p2 p3)) 0 0 (fun _ => False) := by
  refine Met.ofW (cc := cX0_multiply) (maxL := 3) (ret := (some .int)) (by decide) rfl ?_
  intro p e s m args below meth c s₁ B hml hv
  obtain ⟨rfl, -⟩ := hv
  have hx := B.exec
  have hb := B.bytes
  have hr := B.returns
  have hts : ∀ w ∈ gBIG, w.before _ s = true := fun w h => atoms_spec (ws := (.code yX0_multiply cX0_multiply 3 (some .int) :: gBIG)) B.pre w (List.mem_cons_of_mem _ h)
  have hown : s.vm.findClass "PagedHart" = some m.cls := findClass_of_methodNamed B.named
  have hlocks := B.notSynchronized
  have hl := lv_entry ([.int p1, .int p2, .int p3]) (n := 3) (Nat.le_of_ble_eq_true rfl)
  rw [lg_entry_eq]
  generalize (lg_sl ([.int p1, .int p2, .int p3]) ++ List.replicate (3 - (lg_sl ([.int p1, .int p2, .int p3])).length) Slot.unset).toArray = ls at hl ⊢
  have hl : lv_has ls 3 [(0, .int p1), (1, .int p2), (2, .int p3)] := hl
  refine lv_iload_n hx hb dX0_multiply_0 rfl (lv_at hl 0 rfl) ?_
  by_cases c1 : p1 = 0
  · refine lv_tableIn (tgt := 28) (off := 27) hx hb dX0_multiply_1 (by rw [c1]; decide) (by rw [c1]; decide) (by rw [c1]; decide) (by decide) ?_
    refine lv_iload_n hx hb dX0_multiply_28 rfl (lv_at hl 1 rfl) ?_
    refine lv_iload_n hx hb dX0_multiply_29 rfl (lv_at hl 2 rfl) ?_
    refine lv_imul hx hb dX0_multiply_30 ?_
    exact W.iret (v := p2 * p3) hx hb hr (fun t ht hW => ⟨jq (by exact (((if_pos c1).trans rfl)).symm), ht⟩) (fun q h => by cases h) dX0_multiply_31
  by_cases c2 : p1 = 1
  · refine lv_tableIn (tgt := 32) (off := 31) hx hb dX0_multiply_1 (by rw [c2]; decide) (by rw [c2]; decide) (by rw [c2]; decide) (by decide) ?_
    refine lv_iload_n hx hb dX0_multiply_32 rfl (lv_at hl 1 rfl) ?_
    refine lv_i2l (v := p2.toInt64) hx hb dX0_multiply_33 rfl ?_
    refine lv_iload_n hx hb dX0_multiply_34 rfl (lv_at hl 2 rfl) ?_
    refine lv_i2l (v := p3.toInt64) hx hb dX0_multiply_35 rfl ?_
    refine lv_lmul hx hb dX0_multiply_36 ?_
    refine lv_bipush (v := 32) hx hb dX0_multiply_37 (by decide) ?_
    refine lv_lshr (v := (p2.toInt64 * p3.toInt64) >>> ((32 : Int32).toInt64 &&& 63)) hx hb dX0_multiply_39 rfl ?_
    refine lv_l2i (v := ((p2.toInt64 * p3.toInt64) >>> ((32 : Int32).toInt64 &&& 63)).toInt32) hx hb dX0_multiply_40 rfl ?_
    exact W.iret (v := ((p2.toInt64 * p3.toInt64) >>> ((32 : Int32).toInt64 &&& 63)).toInt32) hx hb hr (fun t ht hW => ⟨jq (by exact (((if_neg c1).trans ((if_pos c2).trans rfl))).symm), ht⟩) (fun q h => by cases h) dX0_multiply_41
  by_cases c3 : p1 = 2
  · refine lv_tableIn (tgt := 42) (off := 41) hx hb dX0_multiply_1 (by rw [c3]; decide) (by rw [c3]; decide) (by rw [c3]; decide) (by decide) ?_
    refine lv_iload_n hx hb dX0_multiply_42 rfl (lv_at hl 1 rfl) ?_
    refine lv_i2l (v := p2.toInt64) hx hb dX0_multiply_43 rfl ?_
    refine lv_iload_n hx hb dX0_multiply_44 rfl (lv_at hl 2 rfl) ?_
    refine lv_i2l (v := p3.toInt64) hx hb dX0_multiply_45 rfl ?_
    refine lv_ldc2 (v := 4294967295) hx hb hown (hts _ mC_0_174) dX0_multiply_46 ?_
    refine lv_land hx hb dX0_multiply_49 ?_
    refine lv_lmul hx hb dX0_multiply_50 ?_
    refine lv_bipush (v := 32) hx hb dX0_multiply_51 (by decide) ?_
    refine lv_lshr (v := (p2.toInt64 * (p3.toInt64 &&& (4294967295 : Int64))) >>> ((32 : Int32).toInt64 &&& 63)) hx hb dX0_multiply_53 rfl ?_
    refine lv_topl (fun y4 ey4 => ?_)
    refine lv_l2i (v := y4.toInt32) hx hb dX0_multiply_54 rfl ?_
    exact W.iret (v := y4.toInt32) hx hb hr (fun t ht hW => ⟨jq (by subst ey4; exact (((if_neg c1).trans ((if_neg c2).trans ((if_pos c3).trans rfl)))).symm), ht⟩) (fun q h => by cases h) dX0_multiply_55
  refine lv_tableOut (tgt := 56) hx hb dX0_multiply_1 (by have := lv_neT (k := 0) (a := 0) c1 (by decide); have := lv_neT (k := 1) (a := 1) c2 (by decide); have := lv_neT (k := 2) (a := 2) c3 (by decide); omega) (by decide) ?_
  refine lv_iload_n hx hb dX0_multiply_56 rfl (lv_at hl 1 rfl) ?_
  refine lv_i2l (v := p2.toInt64) hx hb dX0_multiply_57 rfl ?_
  refine lv_ldc2 (v := 4294967295) hx hb hown (hts _ mC_0_174) dX0_multiply_58 ?_
  refine lv_land hx hb dX0_multiply_61 ?_
  refine lv_iload_n hx hb dX0_multiply_62 rfl (lv_at hl 2 rfl) ?_
  refine lv_i2l (v := p3.toInt64) hx hb dX0_multiply_63 rfl ?_
  refine lv_ldc2 (v := 4294967295) hx hb hown (hts _ mC_0_174) dX0_multiply_64 ?_
  refine lv_land hx hb dX0_multiply_67 ?_
  refine lv_lmul hx hb dX0_multiply_68 ?_
  refine lv_topl (fun y5 ey5 => ?_)
  refine lv_bipush (v := 32) hx hb dX0_multiply_69 (by decide) ?_
  refine lv_lushr (v := jlush y5 (32 : Int32)) hx hb dX0_multiply_71 rfl ?_
  refine lv_l2i (v := (jlush y5 (32 : Int32)).toInt32) hx hb dX0_multiply_72 rfl ?_
  exact W.iret (v := (jlush y5 (32 : Int32)).toInt32) hx hb hr (fun t ht hW => ⟨jq (by subst ey5; exact (((if_neg c1).trans ((if_neg c2).trans ((if_neg c3).trans rfl)))).symm), ht⟩) (fun q h => by cases h) dX0_multiply_73

theorem h_dv1 {a : Int32} (h : ¬ a = 0) : ¬ a.toInt64 = 0 := fun q => h (by
  have h1 : a.toInt64.toInt32 = a := by simp
  rw [q] at h1
  exact h1.symm)
theorem h_m32 : ∀ i, i < 64 → (4294967295#64).getLsbD i = decide (i < 32) := by decide
theorem h_lo (a : Int32) : (a.toInt64 &&& (4294967295 : Int64)).toBitVec = a.toBitVec.setWidth 64 := by
  rw [Int64.toBitVec_and, Int32.toBitVec_toInt64, show (4294967295 : Int64).toBitVec = 4294967295#64 from rfl]
  apply BitVec.eq_of_getLsbD_eq
  intro i hi
  rw [BitVec.getLsbD_and, BitVec.getLsbD_signExtend, h_m32 i hi, BitVec.getLsbD_setWidth]
  by_cases h : i < 32
  · simp [h, hi]
  · simp [h, hi]
    first | exact BitVec.getLsbD_of_ge _ _ (by omega) | omega
theorem h_dv2 {a : Int32} (h : ¬ a = 0) : ¬ (a.toInt64 &&& (4294967295 : Int64)) = 0 := fun q => h (by
  have h1 := h_lo a
  rw [q] at h1
  have h2 : a.toBitVec.toNat = 0 := by
    have h3 := congrArg BitVec.toNat h1
    have hb := a.toBitVec.isLt
    rw [BitVec.toNat_setWidth] at h3
    have h4 : (0 : Int64).toBitVec.toNat = 0 := rfl
    omega
  exact Int32.toBitVec_inj.mp (BitVec.eq_of_toNat_eq (by simpa using h2)))
def h_divide (p1 : Int32) (p2 : Int32) (p3 : Int32) : Int32 :=
  if p1 ≤ (5 : Int32) then
    if p3 = 0 then
      ((-1) : Int32)
    else
      if (p1 &&& (1 : Int32)) = 0 then
        let y10 : Int64 := p2.toInt64
        let y12 : Int64 := p3.toInt64
        ((y10 / y12).toInt32)
      else
        let y5 : Int64 := p2.toInt64 &&& (4294967295 : Int64)
        let y7 : Int64 := p3.toInt64 &&& (4294967295 : Int64)
        ((y5 / y7).toInt32)
  else
    if p3 = 0 then
      p2
    else
      if (p1 &&& (1 : Int32)) = 0 then
        let y23 : Int64 := p2.toInt64
        let y25 : Int64 := p3.toInt64
        ((y23 - y23 / y25 * y25).toInt32)
      else
        let y18 : Int64 := p2.toInt64 &&& (4294967295 : Int64)
        let y20 : Int64 := p3.toInt64 &&& (4294967295 : Int64)
        ((y18 - y18 / y20 * y20).toInt32)
set_option maxHeartbeats 4000000 in
set_option maxRecDepth 100000 in
theorem ch_divide (l : Launch) (p1 : Int32) (p2 : Int32) (p3 : Int32) : Met l yX0_divide (.code yX0_divide cX0_divide 9 (some .int) :: gBIG) ({ frames := 0, cells := 0, slots := 0, locals := 0 }) (va_Pc [.int p1, .int p2, .int p3] (fun _ => True)) (QcRead (h_divide p1 p2 p3)) 0 0 (fun _ => False) := by
  refine Met.ofW (cc := cX0_divide) (maxL := 9) (ret := (some .int)) (by decide) rfl ?_
  intro p e s m args below meth c s₁ B hml hv
  obtain ⟨rfl, -⟩ := hv
  have hx := B.exec
  have hb := B.bytes
  have hr := B.returns
  have hts : ∀ w ∈ gBIG, w.before _ s = true := fun w h => atoms_spec (ws := (.code yX0_divide cX0_divide 9 (some .int) :: gBIG)) B.pre w (List.mem_cons_of_mem _ h)
  have hown : s.vm.findClass "PagedHart" = some m.cls := findClass_of_methodNamed B.named
  have hlocks := B.notSynchronized
  have hl := lv_entry ([.int p1, .int p2, .int p3]) (n := 9) (Nat.le_of_ble_eq_true rfl)
  rw [lg_entry_eq]
  generalize (lg_sl ([.int p1, .int p2, .int p3]) ++ List.replicate (9 - (lg_sl ([.int p1, .int p2, .int p3])).length) Slot.unset).toArray = ls at hl ⊢
  have hl : lv_has ls 9 [(0, .int p1), (1, .int p2), (2, .int p3)] := hl
  refine lv_iload_n hx hb dX0_divide_0 rfl (lv_at hl 0 rfl) ?_
  refine lv_iconst (v := 5) hx hb dX0_divide_1 (by decide) ?_
  refine lv_icmp_le (tgt := 9) hx hb dX0_divide_2 (by decide) (fun c1 => ?_) (fun c1 => ?_)
  · refine lv_iconst (v := 0) hx hb dX0_divide_9 (by decide) ?_
    refine lv_istore_n (lv' := [(3, .int 0), (0, .int p1), (1, .int p2), (2, .int p3)]) hx hb dX0_divide_10 rfl hl (by decide) rfl (fun ls hl => ?_)
    refine lv_iload_n hx hb dX0_divide_11 rfl (lv_at hl 3 rfl) ?_
    refine lv_if_ne (tgt := 25) hx hb dX0_divide_12 (by decide) (fun c2 => ?_) (fun c2 => ?_)
    · refine lv_iload_n hx hb dX0_divide_25 rfl (lv_at hl 1 rfl) ?_
      refine lv_iconst (v := 1) hx hb dX0_divide_26 (by decide) ?_
      refine lv_iand hx hb dX0_divide_27 ?_
      refine lv_if_ne (tgt := 35) hx hb dX0_divide_28 (by decide) (fun c3 => ?_) (fun c3 => ?_)
      · refine lv_iconst (v := 0) hx hb dX0_divide_35 (by decide) ?_
        refine lv_istore (lv' := [(4, .int 0), (3, .int 0), (0, .int p1), (1, .int p2), (2, .int p3)]) hx hb dX0_divide_36 hl (by decide) rfl (fun ls hl => ?_)
        refine lv_iload hx hb dX0_divide_38 (lv_at hl 0 rfl) ?_
        refine lv_if_eq (tgt := 48) hx hb dX0_divide_40 (by decide) (fun c4 => ?_) (fun c4 => ?_)
        · refine lv_iload_n hx hb dX0_divide_48 rfl (lv_at hl 3 rfl) ?_
          refine lv_i2l (v := p2.toInt64) hx hb dX0_divide_49 rfl ?_
          refine lv_ldc2 (v := 4294967295) hx hb hown (hts _ mC_0_174) dX0_divide_50 ?_
          refine lv_land hx hb dX0_divide_53 ?_
          refine lv_topl (fun y5 ey5 => ?_)
          refine lv_lstore (lv' := [(5, .long y5), (4, .int 0), (3, .int 0), (0, .int p1), (1, .int p2), (2, .int p3)]) hx hb dX0_divide_54 hl (by decide) rfl (fun ls hl => ?_)
          refine lv_iload hx hb dX0_divide_56 (lv_at hl 1 rfl) ?_
          refine lv_if_eq (tgt := 66) hx hb dX0_divide_58 (by decide) (fun c6 => ?_) (fun c6 => ?_)
          · refine lv_iload_n hx hb dX0_divide_66 rfl (lv_at hl 5 rfl) ?_
            refine lv_i2l (v := p3.toInt64) hx hb dX0_divide_67 rfl ?_
            refine lv_ldc2 (v := 4294967295) hx hb hown (hts _ mC_0_174) dX0_divide_68 ?_
            refine lv_land hx hb dX0_divide_71 ?_
            refine lv_topl (fun y7 ey7 => ?_)
            refine lv_lstore (lv' := [(7, .long y7), (5, .long y5), (4, .int 0), (3, .int 0), (0, .int p1), (1, .int p2), (2, .int p3)]) hx hb dX0_divide_72 hl (by decide) rfl (fun ls hl => ?_)
            refine lv_iload_n hx hb dX0_divide_74 rfl (lv_at hl 3 rfl) ?_
            refine lv_if_eq (tgt := 86) hx hb dX0_divide_75 (by decide) (fun c8 => ?_) (fun c8 => ?_)
            · refine lv_lload hx hb dX0_divide_86 (lv_at hl 1 rfl) ?_
              refine lv_lload hx hb dX0_divide_88 (lv_at hl 0 rfl) ?_
              refine lv_ldiv hx hb dX0_divide_90 (by rw [ey7]; exact h_dv2 c2) ?_
              refine lv_l2i (v := (y5 / y7).toInt32) hx hb dX0_divide_91 rfl ?_
              exact W.iret (v := (y5 / y7).toInt32) hx hb hr (fun t ht hW => ⟨jq (by subst ey7 ey5; exact (((if_pos c1).trans ((if_neg c2).trans ((if_neg c3).trans rfl)))).symm), ht⟩) (fun q h => by cases h) dX0_divide_92
            · exact (c8 (by decide)).elim
          · exact (c6 (by decide)).elim
        · exact (c4 (by decide)).elim
      · refine lv_iconst (v := 1) hx hb dX0_divide_31 (by decide) ?_
        refine lv_goto (tgt := 36) hx hb dX0_divide_32 (by decide) ?_
        refine lv_istore (lv' := [(4, .int 1), (3, .int 0), (0, .int p1), (1, .int p2), (2, .int p3)]) hx hb dX0_divide_36 hl (by decide) rfl (fun ls hl => ?_)
        refine lv_iload hx hb dX0_divide_38 (lv_at hl 0 rfl) ?_
        refine lv_if_eq (tgt := 48) hx hb dX0_divide_40 (by decide) (fun c9 => ?_) (fun c9 => ?_)
        · exact absurd c9 (by decide)
        · refine lv_iload_n hx hb dX0_divide_43 rfl (lv_at hl 3 rfl) ?_
          refine lv_i2l (v := p2.toInt64) hx hb dX0_divide_44 rfl ?_
          refine lv_goto (tgt := 54) hx hb dX0_divide_45 (by decide) ?_
          refine lv_topl (fun y10 ey10 => ?_)
          refine lv_lstore (lv' := [(5, .long y10), (4, .int 1), (3, .int 0), (0, .int p1), (1, .int p2), (2, .int p3)]) hx hb dX0_divide_54 hl (by decide) rfl (fun ls hl => ?_)
          refine lv_iload hx hb dX0_divide_56 (lv_at hl 1 rfl) ?_
          refine lv_if_eq (tgt := 66) hx hb dX0_divide_58 (by decide) (fun c11 => ?_) (fun c11 => ?_)
          · exact absurd c11 (by decide)
          · refine lv_iload_n hx hb dX0_divide_61 rfl (lv_at hl 5 rfl) ?_
            refine lv_i2l (v := p3.toInt64) hx hb dX0_divide_62 rfl ?_
            refine lv_goto (tgt := 72) hx hb dX0_divide_63 (by decide) ?_
            refine lv_topl (fun y12 ey12 => ?_)
            refine lv_lstore (lv' := [(7, .long y12), (5, .long y10), (4, .int 1), (3, .int 0), (0, .int p1), (1, .int p2), (2, .int p3)]) hx hb dX0_divide_72 hl (by decide) rfl (fun ls hl => ?_)
            refine lv_iload_n hx hb dX0_divide_74 rfl (lv_at hl 3 rfl) ?_
            refine lv_if_eq (tgt := 86) hx hb dX0_divide_75 (by decide) (fun c13 => ?_) (fun c13 => ?_)
            · refine lv_lload hx hb dX0_divide_86 (lv_at hl 1 rfl) ?_
              refine lv_lload hx hb dX0_divide_88 (lv_at hl 0 rfl) ?_
              refine lv_ldiv hx hb dX0_divide_90 (by rw [ey12]; exact h_dv1 c2) ?_
              refine lv_l2i (v := (y10 / y12).toInt32) hx hb dX0_divide_91 rfl ?_
              exact W.iret (v := (y10 / y12).toInt32) hx hb hr (fun t ht hW => ⟨jq (by subst ey12 ey10; exact (((if_pos c1).trans ((if_neg c2).trans ((if_pos c3).trans rfl)))).symm), ht⟩) (fun q h => by cases h) dX0_divide_92
            · exact (c13 (by decide)).elim
    · refine lv_iload_n hx hb dX0_divide_15 rfl (lv_at hl 0 rfl) ?_
      refine lv_if_eq (tgt := 23) hx hb dX0_divide_16 (by decide) (fun c14 => ?_) (fun c14 => ?_)
      · refine lv_iconst (v := (-1)) hx hb dX0_divide_23 (by decide) ?_
        exact W.iret (v := (-1)) hx hb hr (fun t ht hW => ⟨jq (by exact (((if_pos c1).trans ((if_pos c2).trans rfl))).symm), ht⟩) (fun q h => by cases h) dX0_divide_24
      · exact (c14 (by decide)).elim
  · refine lv_iconst (v := 1) hx hb dX0_divide_5 (by decide) ?_
    refine lv_goto (tgt := 10) hx hb dX0_divide_6 (by decide) ?_
    refine lv_istore_n (lv' := [(3, .int 1), (0, .int p1), (1, .int p2), (2, .int p3)]) hx hb dX0_divide_10 rfl hl (by decide) rfl (fun ls hl => ?_)
    refine lv_iload_n hx hb dX0_divide_11 rfl (lv_at hl 3 rfl) ?_
    refine lv_if_ne (tgt := 25) hx hb dX0_divide_12 (by decide) (fun c15 => ?_) (fun c15 => ?_)
    · refine lv_iload_n hx hb dX0_divide_25 rfl (lv_at hl 1 rfl) ?_
      refine lv_iconst (v := 1) hx hb dX0_divide_26 (by decide) ?_
      refine lv_iand hx hb dX0_divide_27 ?_
      refine lv_if_ne (tgt := 35) hx hb dX0_divide_28 (by decide) (fun c16 => ?_) (fun c16 => ?_)
      · refine lv_iconst (v := 0) hx hb dX0_divide_35 (by decide) ?_
        refine lv_istore (lv' := [(4, .int 0), (3, .int 1), (0, .int p1), (1, .int p2), (2, .int p3)]) hx hb dX0_divide_36 hl (by decide) rfl (fun ls hl => ?_)
        refine lv_iload hx hb dX0_divide_38 (lv_at hl 0 rfl) ?_
        refine lv_if_eq (tgt := 48) hx hb dX0_divide_40 (by decide) (fun c17 => ?_) (fun c17 => ?_)
        · refine lv_iload_n hx hb dX0_divide_48 rfl (lv_at hl 3 rfl) ?_
          refine lv_i2l (v := p2.toInt64) hx hb dX0_divide_49 rfl ?_
          refine lv_ldc2 (v := 4294967295) hx hb hown (hts _ mC_0_174) dX0_divide_50 ?_
          refine lv_land hx hb dX0_divide_53 ?_
          refine lv_topl (fun y18 ey18 => ?_)
          refine lv_lstore (lv' := [(5, .long y18), (4, .int 0), (3, .int 1), (0, .int p1), (1, .int p2), (2, .int p3)]) hx hb dX0_divide_54 hl (by decide) rfl (fun ls hl => ?_)
          refine lv_iload hx hb dX0_divide_56 (lv_at hl 1 rfl) ?_
          refine lv_if_eq (tgt := 66) hx hb dX0_divide_58 (by decide) (fun c19 => ?_) (fun c19 => ?_)
          · refine lv_iload_n hx hb dX0_divide_66 rfl (lv_at hl 5 rfl) ?_
            refine lv_i2l (v := p3.toInt64) hx hb dX0_divide_67 rfl ?_
            refine lv_ldc2 (v := 4294967295) hx hb hown (hts _ mC_0_174) dX0_divide_68 ?_
            refine lv_land hx hb dX0_divide_71 ?_
            refine lv_topl (fun y20 ey20 => ?_)
            refine lv_lstore (lv' := [(7, .long y20), (5, .long y18), (4, .int 0), (3, .int 1), (0, .int p1), (1, .int p2), (2, .int p3)]) hx hb dX0_divide_72 hl (by decide) rfl (fun ls hl => ?_)
            refine lv_iload_n hx hb dX0_divide_74 rfl (lv_at hl 3 rfl) ?_
            refine lv_if_eq (tgt := 86) hx hb dX0_divide_75 (by decide) (fun c21 => ?_) (fun c21 => ?_)
            · exact absurd c21 (by decide)
            · refine lv_lload hx hb dX0_divide_78 (lv_at hl 1 rfl) ?_
              refine lv_lload hx hb dX0_divide_80 (lv_at hl 0 rfl) ?_
              refine lv_lrem hx hb dX0_divide_82 (by rw [ey20]; exact h_dv2 c15) ?_
              refine lv_goto (tgt := 91) hx hb dX0_divide_83 (by decide) ?_
              refine lv_l2i (v := (y18 - y18 / y20 * y20).toInt32) hx hb dX0_divide_91 rfl ?_
              exact W.iret (v := (y18 - y18 / y20 * y20).toInt32) hx hb hr (fun t ht hW => ⟨jq (by subst ey20 ey18; exact (((if_neg c1).trans ((if_neg c15).trans ((if_neg c16).trans rfl)))).symm), ht⟩) (fun q h => by cases h) dX0_divide_92
          · exact (c19 (by decide)).elim
        · exact (c17 (by decide)).elim
      · refine lv_iconst (v := 1) hx hb dX0_divide_31 (by decide) ?_
        refine lv_goto (tgt := 36) hx hb dX0_divide_32 (by decide) ?_
        refine lv_istore (lv' := [(4, .int 1), (3, .int 1), (0, .int p1), (1, .int p2), (2, .int p3)]) hx hb dX0_divide_36 hl (by decide) rfl (fun ls hl => ?_)
        refine lv_iload hx hb dX0_divide_38 (lv_at hl 0 rfl) ?_
        refine lv_if_eq (tgt := 48) hx hb dX0_divide_40 (by decide) (fun c22 => ?_) (fun c22 => ?_)
        · exact absurd c22 (by decide)
        · refine lv_iload_n hx hb dX0_divide_43 rfl (lv_at hl 3 rfl) ?_
          refine lv_i2l (v := p2.toInt64) hx hb dX0_divide_44 rfl ?_
          refine lv_goto (tgt := 54) hx hb dX0_divide_45 (by decide) ?_
          refine lv_topl (fun y23 ey23 => ?_)
          refine lv_lstore (lv' := [(5, .long y23), (4, .int 1), (3, .int 1), (0, .int p1), (1, .int p2), (2, .int p3)]) hx hb dX0_divide_54 hl (by decide) rfl (fun ls hl => ?_)
          refine lv_iload hx hb dX0_divide_56 (lv_at hl 1 rfl) ?_
          refine lv_if_eq (tgt := 66) hx hb dX0_divide_58 (by decide) (fun c24 => ?_) (fun c24 => ?_)
          · exact absurd c24 (by decide)
          · refine lv_iload_n hx hb dX0_divide_61 rfl (lv_at hl 5 rfl) ?_
            refine lv_i2l (v := p3.toInt64) hx hb dX0_divide_62 rfl ?_
            refine lv_goto (tgt := 72) hx hb dX0_divide_63 (by decide) ?_
            refine lv_topl (fun y25 ey25 => ?_)
            refine lv_lstore (lv' := [(7, .long y25), (5, .long y23), (4, .int 1), (3, .int 1), (0, .int p1), (1, .int p2), (2, .int p3)]) hx hb dX0_divide_72 hl (by decide) rfl (fun ls hl => ?_)
            refine lv_iload_n hx hb dX0_divide_74 rfl (lv_at hl 3 rfl) ?_
            refine lv_if_eq (tgt := 86) hx hb dX0_divide_75 (by decide) (fun c26 => ?_) (fun c26 => ?_)
            · exact absurd c26 (by decide)
            · refine lv_lload hx hb dX0_divide_78 (lv_at hl 1 rfl) ?_
              refine lv_lload hx hb dX0_divide_80 (lv_at hl 0 rfl) ?_
              refine lv_lrem hx hb dX0_divide_82 (by rw [ey25]; exact h_dv1 c15) ?_
              refine lv_goto (tgt := 91) hx hb dX0_divide_83 (by decide) ?_
              refine lv_l2i (v := (y23 - y23 / y25 * y25).toInt32) hx hb dX0_divide_91 rfl ?_
              exact W.iret (v := (y23 - y23 / y25 * y25).toInt32) hx hb hr (fun t ht hW => ⟨jq (by subst ey25 ey23; exact (((if_neg c1).trans ((if_neg c15).trans ((if_pos c16).trans rfl)))).symm), ht⟩) (fun q h => by cases h) dX0_divide_92
    · refine lv_iload_n hx hb dX0_divide_15 rfl (lv_at hl 0 rfl) ?_
      refine lv_if_eq (tgt := 23) hx hb dX0_divide_16 (by decide) (fun c27 => ?_) (fun c27 => ?_)
      · exact absurd c27 (by decide)
      · refine lv_iload_n hx hb dX0_divide_19 rfl (lv_at hl 2 rfl) ?_
        refine lv_goto (tgt := 24) hx hb dX0_divide_20 (by decide) ?_
        exact W.iret (v := p2) hx hb hr (fun t ht hW => ⟨jq (by exact (((if_neg c1).trans ((if_pos c15).trans rfl))).symm), ht⟩) (fun q h => by cases h) dX0_divide_24

def h_changed (p1 : Int32) (p2 : Int32) (p3 : Int32) : Int32 :=
  if p1 = (1 : Int32) then
    p3
  else
    if p1 = (2 : Int32) then
      (p2 ||| p3)
    else
      (p2 &&& (p3 ^^^ ((-1) : Int32)))
set_option maxHeartbeats 4000000 in
set_option maxRecDepth 100000 in
theorem ch_changed (l : Launch) (p1 : Int32) (p2 : Int32) (p3 : Int32) : Met l yX0_changed (.code yX0_changed cX0_changed 3 (some .int) :: gBIG) ({ frames := 0, cells := 0, slots := 0, locals := 0 }) (va_Pc [.int p1, .int p2, .int p3] (fun _ => True)) (QcRead (h_changed p1 p2 p3)) 0 0 (fun _ => False) := by
  refine Met.ofW (cc := cX0_changed) (maxL := 3) (ret := (some .int)) (by decide) rfl ?_
  intro p e s m args below meth c s₁ B hml hv
  obtain ⟨rfl, -⟩ := hv
  have hx := B.exec
  have hb := B.bytes
  have hr := B.returns
  have hts : ∀ w ∈ gBIG, w.before _ s = true := fun w h => atoms_spec (ws := (.code yX0_changed cX0_changed 3 (some .int) :: gBIG)) B.pre w (List.mem_cons_of_mem _ h)
  have hown : s.vm.findClass "PagedHart" = some m.cls := findClass_of_methodNamed B.named
  have hlocks := B.notSynchronized
  have hl := lv_entry ([.int p1, .int p2, .int p3]) (n := 3) (Nat.le_of_ble_eq_true rfl)
  rw [lg_entry_eq]
  generalize (lg_sl ([.int p1, .int p2, .int p3]) ++ List.replicate (3 - (lg_sl ([.int p1, .int p2, .int p3])).length) Slot.unset).toArray = ls at hl ⊢
  have hl : lv_has ls 3 [(0, .int p1), (1, .int p2), (2, .int p3)] := hl
  refine lv_iload_n hx hb dX0_changed_0 rfl (lv_at hl 0 rfl) ?_
  refine lv_iconst (v := 1) hx hb dX0_changed_1 (by decide) ?_
  refine lv_icmp_ne (tgt := 7) hx hb dX0_changed_2 (by decide) (fun c1 => ?_) (fun c1 => ?_)
  · refine lv_iload_n hx hb dX0_changed_7 rfl (lv_at hl 0 rfl) ?_
    refine lv_iconst (v := 2) hx hb dX0_changed_8 (by decide) ?_
    refine lv_icmp_ne (tgt := 18) hx hb dX0_changed_9 (by decide) (fun c2 => ?_) (fun c2 => ?_)
    · refine lv_iload_n hx hb dX0_changed_18 rfl (lv_at hl 1 rfl) ?_
      refine lv_iload_n hx hb dX0_changed_19 rfl (lv_at hl 2 rfl) ?_
      refine lv_iconst (v := (-1)) hx hb dX0_changed_20 (by decide) ?_
      refine lv_ixor hx hb dX0_changed_21 ?_
      refine lv_iand hx hb dX0_changed_22 ?_
      exact W.iret (v := p2 &&& (p3 ^^^ ((-1) : Int32))) hx hb hr (fun t ht hW => ⟨jq (by exact (((if_neg c1).trans ((if_neg c2).trans rfl))).symm), ht⟩) (fun q h => by cases h) dX0_changed_23
    · refine lv_iload_n hx hb dX0_changed_12 rfl (lv_at hl 1 rfl) ?_
      refine lv_iload_n hx hb dX0_changed_13 rfl (lv_at hl 2 rfl) ?_
      refine lv_ior hx hb dX0_changed_14 ?_
      refine lv_goto (tgt := 23) hx hb dX0_changed_15 (by decide) ?_
      exact W.iret (v := p2 ||| p3) hx hb hr (fun t ht hW => ⟨jq (by exact (((if_neg c1).trans ((if_pos c2).trans rfl))).symm), ht⟩) (fun q h => by cases h) dX0_changed_23
  · refine lv_iload_n hx hb dX0_changed_5 rfl (lv_at hl 2 rfl) ?_
    exact W.iret (v := p3) hx hb hr (fun t ht hW => ⟨jq (by exact (((if_pos c1).trans rfl)).symm), ht⟩) (fun q h => by cases h) dX0_changed_6
