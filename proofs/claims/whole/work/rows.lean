section
-- ===== PART A: goes FIRST, ahead of the names: the tables' words, and 'selects' of the private methods out of them =====
/-- a private method of a class that the tables say can be made, by its rows of tables_1 -/
def lw_okq (q : MethodName × Nat) : Prop := (q.1.cls ≠ "java/lang/invoke/MethodHandle" ∧ q.1.cls ≠ "java/lang/invoke/VarHandle") ∧ Cond.instantiable q.1.cls q.2 ∈ tables_1 ∧ Cond.privateMethod q.1 ∈ tables_1 ∧ Cond.instanceMethod q.1 ∈ tables_1
theorem lw_p0 : lw_okq (⟨"java/lang/Throwable", "fillInStackTrace", "(I)Ljava/lang/Throwable;"⟩, 6) := ⟨⟨by decide +kernel, by decide +kernel⟩, List.mem_of_getElem? (i := 89) (by decide +kernel), List.mem_of_getElem? (i := 87) (by decide +kernel), List.mem_of_getElem? (i := 88) (by decide +kernel)⟩
theorem lw_p1 : lw_okq (⟨"PagedHart", "step", "()V"⟩, 6) := ⟨⟨by decide +kernel, by decide +kernel⟩, List.mem_of_getElem? (i := 10) (by decide +kernel), List.mem_of_getElem? (i := 119) (by decide +kernel), List.mem_of_getElem? (i := 120) (by decide +kernel)⟩
theorem lw_p2 : lw_okq (⟨"PagedHart", "trap", "(II)Z"⟩, 6) := ⟨⟨by decide +kernel, by decide +kernel⟩, List.mem_of_getElem? (i := 10) (by decide +kernel), List.mem_of_getElem? (i := 123) (by decide +kernel), List.mem_of_getElem? (i := 124) (by decide +kernel)⟩
theorem lw_p3 : lw_okq (⟨"PagedHart", "locateAligned", "(III)I"⟩, 6) := ⟨⟨by decide +kernel, by decide +kernel⟩, List.mem_of_getElem? (i := 10) (by decide +kernel), List.mem_of_getElem? (i := 131) (by decide +kernel), List.mem_of_getElem? (i := 132) (by decide +kernel)⟩
theorem lw_p4 : lw_okq (⟨"PagedHart", "locate", "(II)I"⟩, 6) := ⟨⟨by decide +kernel, by decide +kernel⟩, List.mem_of_getElem? (i := 10) (by decide +kernel), List.mem_of_getElem? (i := 138) (by decide +kernel), List.mem_of_getElem? (i := 139) (by decide +kernel)⟩
theorem lw_p5 : lw_okq (⟨"PagedHart", "permits", "(II)Z"⟩, 6) := ⟨⟨by decide +kernel, by decide +kernel⟩, List.mem_of_getElem? (i := 10) (by decide +kernel), List.mem_of_getElem? (i := 152) (by decide +kernel), List.mem_of_getElem? (i := 153) (by decide +kernel)⟩
theorem lw_p6 : lw_okq (⟨"PagedHart", "perform", "(I)Z"⟩, 6) := ⟨⟨by decide +kernel, by decide +kernel⟩, List.mem_of_getElem? (i := 10) (by decide +kernel), List.mem_of_getElem? (i := 159) (by decide +kernel), List.mem_of_getElem? (i := 160) (by decide +kernel)⟩
theorem lw_p7 : lw_okq (⟨"PagedHart", "goOnWith", "(II)Z"⟩, 6) := ⟨⟨by decide +kernel, by decide +kernel⟩, List.mem_of_getElem? (i := 10) (by decide +kernel), List.mem_of_getElem? (i := 166) (by decide +kernel), List.mem_of_getElem? (i := 167) (by decide +kernel)⟩
theorem lw_p8 : lw_okq (⟨"PagedHart", "writeD", "(II)V"⟩, 6) := ⟨⟨by decide +kernel, by decide +kernel⟩, List.mem_of_getElem? (i := 10) (by decide +kernel), List.mem_of_getElem? (i := 170) (by decide +kernel), List.mem_of_getElem? (i := 171) (by decide +kernel)⟩
theorem lw_p9 : lw_okq (⟨"PagedHart", "goOn", "()Z"⟩, 6) := ⟨⟨by decide +kernel, by decide +kernel⟩, List.mem_of_getElem? (i := 10) (by decide +kernel), List.mem_of_getElem? (i := 174) (by decide +kernel), List.mem_of_getElem? (i := 175) (by decide +kernel)⟩
theorem lw_p10 : lw_okq (⟨"PagedHart", "jump", "(II)Z"⟩, 6) := ⟨⟨by decide +kernel, by decide +kernel⟩, List.mem_of_getElem? (i := 10) (by decide +kernel), List.mem_of_getElem? (i := 181) (by decide +kernel), List.mem_of_getElem? (i := 182) (by decide +kernel)⟩
theorem lw_p11 : lw_okq (⟨"PagedHart", "aOf", "(I)I"⟩, 6) := ⟨⟨by decide +kernel, by decide +kernel⟩, List.mem_of_getElem? (i := 10) (by decide +kernel), List.mem_of_getElem? (i := 188) (by decide +kernel), List.mem_of_getElem? (i := 189) (by decide +kernel)⟩
theorem lw_p12 : lw_okq (⟨"PagedHart", "refuse", "(I)Z"⟩, 6) := ⟨⟨by decide +kernel, by decide +kernel⟩, List.mem_of_getElem? (i := 10) (by decide +kernel), List.mem_of_getElem? (i := 195) (by decide +kernel), List.mem_of_getElem? (i := 196) (by decide +kernel)⟩
theorem lw_p13 : lw_okq (⟨"PagedHart", "branch", "(I)Z"⟩, 6) := ⟨⟨by decide +kernel, by decide +kernel⟩, List.mem_of_getElem? (i := 10) (by decide +kernel), List.mem_of_getElem? (i := 199) (by decide +kernel), List.mem_of_getElem? (i := 200) (by decide +kernel)⟩
theorem lw_p14 : lw_okq (⟨"PagedHart", "bOf", "(I)I"⟩, 6) := ⟨⟨by decide +kernel, by decide +kernel⟩, List.mem_of_getElem? (i := 10) (by decide +kernel), List.mem_of_getElem? (i := 203) (by decide +kernel), List.mem_of_getElem? (i := 204) (by decide +kernel)⟩
theorem lw_p15 : lw_okq (⟨"PagedHart", "load", "(I)Z"⟩, 6) := ⟨⟨by decide +kernel, by decide +kernel⟩, List.mem_of_getElem? (i := 10) (by decide +kernel), List.mem_of_getElem? (i := 217) (by decide +kernel), List.mem_of_getElem? (i := 218) (by decide +kernel)⟩
def lw_privs_1 : List (MethodName × Nat) := [(⟨"java/lang/Throwable", "fillInStackTrace", "(I)Ljava/lang/Throwable;"⟩, 6), (⟨"PagedHart", "step", "()V"⟩, 6), (⟨"PagedHart", "trap", "(II)Z"⟩, 6), (⟨"PagedHart", "locateAligned", "(III)I"⟩, 6), (⟨"PagedHart", "locate", "(II)I"⟩, 6), (⟨"PagedHart", "permits", "(II)Z"⟩, 6), (⟨"PagedHart", "perform", "(I)Z"⟩, 6), (⟨"PagedHart", "goOnWith", "(II)Z"⟩, 6), (⟨"PagedHart", "writeD", "(II)V"⟩, 6), (⟨"PagedHart", "goOn", "()Z"⟩, 6), (⟨"PagedHart", "jump", "(II)Z"⟩, 6), (⟨"PagedHart", "aOf", "(I)I"⟩, 6), (⟨"PagedHart", "refuse", "(I)Z"⟩, 6), (⟨"PagedHart", "branch", "(I)Z"⟩, 6), (⟨"PagedHart", "bOf", "(I)I"⟩, 6), (⟨"PagedHart", "load", "(I)Z"⟩, 6)]
theorem lw_r1 : ∀ q ∈ lw_privs_1, lw_okq q := List.forall_mem_cons.mpr ⟨lw_p0, List.forall_mem_cons.mpr ⟨lw_p1, List.forall_mem_cons.mpr ⟨lw_p2, List.forall_mem_cons.mpr ⟨lw_p3, List.forall_mem_cons.mpr ⟨lw_p4, List.forall_mem_cons.mpr ⟨lw_p5, List.forall_mem_cons.mpr ⟨lw_p6, List.forall_mem_cons.mpr ⟨lw_p7, List.forall_mem_cons.mpr ⟨lw_p8, List.forall_mem_cons.mpr ⟨lw_p9, List.forall_mem_cons.mpr ⟨lw_p10, List.forall_mem_cons.mpr ⟨lw_p11, List.forall_mem_cons.mpr ⟨lw_p12, List.forall_mem_cons.mpr ⟨lw_p13, List.forall_mem_cons.mpr ⟨lw_p14, List.forall_mem_cons.mpr ⟨lw_p15, fun _ h => absurd h List.not_mem_nil⟩⟩⟩⟩⟩⟩⟩⟩⟩⟩⟩⟩⟩⟩⟩⟩
theorem lw_p16 : lw_okq (⟨"PagedHart", "store", "(I)Z"⟩, 6) := ⟨⟨by decide +kernel, by decide +kernel⟩, List.mem_of_getElem? (i := 10) (by decide +kernel), List.mem_of_getElem? (i := 225) (by decide +kernel), List.mem_of_getElem? (i := 226) (by decide +kernel)⟩
theorem lw_p17 : lw_okq (⟨"PagedHart", "calculateWithNumber", "(I)Z"⟩, 6) := ⟨⟨by decide +kernel, by decide +kernel⟩, List.mem_of_getElem? (i := 10) (by decide +kernel), List.mem_of_getElem? (i := 235) (by decide +kernel), List.mem_of_getElem? (i := 236) (by decide +kernel)⟩
theorem lw_p18 : lw_okq (⟨"PagedHart", "calculateWithRegister", "(I)Z"⟩, 6) := ⟨⟨by decide +kernel, by decide +kernel⟩, List.mem_of_getElem? (i := 10) (by decide +kernel), List.mem_of_getElem? (i := 245) (by decide +kernel), List.mem_of_getElem? (i := 246) (by decide +kernel)⟩
theorem lw_p19 : lw_okq (⟨"PagedHart", "performSystem", "(I)Z"⟩, 6) := ⟨⟨by decide +kernel, by decide +kernel⟩, List.mem_of_getElem? (i := 10) (by decide +kernel), List.mem_of_getElem? (i := 255) (by decide +kernel), List.mem_of_getElem? (i := 256) (by decide +kernel)⟩
theorem lw_p20 : lw_okq (⟨"PagedHart", "call", "()Z"⟩, 6) := ⟨⟨by decide +kernel, by decide +kernel⟩, List.mem_of_getElem? (i := 10) (by decide +kernel), List.mem_of_getElem? (i := 259) (by decide +kernel), List.mem_of_getElem? (i := 260) (by decide +kernel)⟩
theorem lw_p21 : lw_okq (⟨"PagedHart", "changeControl", "(I)Z"⟩, 6) := ⟨⟨by decide +kernel, by decide +kernel⟩, List.mem_of_getElem? (i := 10) (by decide +kernel), List.mem_of_getElem? (i := 264) (by decide +kernel), List.mem_of_getElem? (i := 265) (by decide +kernel)⟩
theorem lw_p22 : lw_okq (⟨"PagedHart", "returnFromTrap", "()Z"⟩, 6) := ⟨⟨by decide +kernel, by decide +kernel⟩, List.mem_of_getElem? (i := 10) (by decide +kernel), List.mem_of_getElem? (i := 277) (by decide +kernel), List.mem_of_getElem? (i := 278) (by decide +kernel)⟩
theorem lw_p23 : lw_okq (⟨"PagedHart", "countDown", "(I)V"⟩, 6) := ⟨⟨by decide +kernel, by decide +kernel⟩, List.mem_of_getElem? (i := 10) (by decide +kernel), List.mem_of_getElem? (i := 284) (by decide +kernel), List.mem_of_getElem? (i := 285) (by decide +kernel)⟩
theorem lw_p24 : lw_okq (⟨"PagedHartModel", "step", "()V"⟩, 18) := ⟨⟨by decide +kernel, by decide +kernel⟩, List.mem_of_getElem? (i := 384) (by decide +kernel), List.mem_of_getElem? (i := 454) (by decide +kernel), List.mem_of_getElem? (i := 455) (by decide +kernel)⟩
theorem lw_p25 : lw_okq (⟨"PagedHartModel", "trap", "(II)V"⟩, 18) := ⟨⟨by decide +kernel, by decide +kernel⟩, List.mem_of_getElem? (i := 384) (by decide +kernel), List.mem_of_getElem? (i := 458) (by decide +kernel), List.mem_of_getElem? (i := 459) (by decide +kernel)⟩
theorem lw_p26 : lw_okq (⟨"PagedHartModel", "reach", "(III)I"⟩, 18) := ⟨⟨by decide +kernel, by decide +kernel⟩, List.mem_of_getElem? (i := 384) (by decide +kernel), List.mem_of_getElem? (i := 471) (by decide +kernel), List.mem_of_getElem? (i := 472) (by decide +kernel)⟩
theorem lw_p27 : lw_okq (⟨"PagedHartModel", "translated", "(II)I"⟩, 18) := ⟨⟨by decide +kernel, by decide +kernel⟩, List.mem_of_getElem? (i := 384) (by decide +kernel), List.mem_of_getElem? (i := 475) (by decide +kernel), List.mem_of_getElem? (i := 476) (by decide +kernel)⟩
theorem lw_p28 : lw_okq (⟨"PagedHartModel", "lets", "(IIZ)Z"⟩, 18) := ⟨⟨by decide +kernel, by decide +kernel⟩, List.mem_of_getElem? (i := 384) (by decide +kernel), List.mem_of_getElem? (i := 489) (by decide +kernel), List.mem_of_getElem? (i := 490) (by decide +kernel)⟩
theorem lw_p29 : lw_okq (⟨"PagedHartModel", "perform", "(I)V"⟩, 18) := ⟨⟨by decide +kernel, by decide +kernel⟩, List.mem_of_getElem? (i := 384) (by decide +kernel), List.mem_of_getElem? (i := 496) (by decide +kernel), List.mem_of_getElem? (i := 497) (by decide +kernel)⟩
theorem lw_p30 : lw_okq (⟨"PagedHartModel", "set", "(II)V"⟩, 18) := ⟨⟨by decide +kernel, by decide +kernel⟩, List.mem_of_getElem? (i := 384) (by decide +kernel), List.mem_of_getElem? (i := 500) (by decide +kernel), List.mem_of_getElem? (i := 501) (by decide +kernel)⟩
theorem lw_p31 : lw_okq (⟨"PagedHartModel", "jump", "(II)V"⟩, 18) := ⟨⟨by decide +kernel, by decide +kernel⟩, List.mem_of_getElem? (i := 384) (by decide +kernel), List.mem_of_getElem? (i := 508) (by decide +kernel), List.mem_of_getElem? (i := 509) (by decide +kernel)⟩
def lw_privs_2 : List (MethodName × Nat) := [(⟨"PagedHart", "store", "(I)Z"⟩, 6), (⟨"PagedHart", "calculateWithNumber", "(I)Z"⟩, 6), (⟨"PagedHart", "calculateWithRegister", "(I)Z"⟩, 6), (⟨"PagedHart", "performSystem", "(I)Z"⟩, 6), (⟨"PagedHart", "call", "()Z"⟩, 6), (⟨"PagedHart", "changeControl", "(I)Z"⟩, 6), (⟨"PagedHart", "returnFromTrap", "()Z"⟩, 6), (⟨"PagedHart", "countDown", "(I)V"⟩, 6), (⟨"PagedHartModel", "step", "()V"⟩, 18), (⟨"PagedHartModel", "trap", "(II)V"⟩, 18), (⟨"PagedHartModel", "reach", "(III)I"⟩, 18), (⟨"PagedHartModel", "translated", "(II)I"⟩, 18), (⟨"PagedHartModel", "lets", "(IIZ)Z"⟩, 18), (⟨"PagedHartModel", "perform", "(I)V"⟩, 18), (⟨"PagedHartModel", "set", "(II)V"⟩, 18), (⟨"PagedHartModel", "jump", "(II)V"⟩, 18)]
theorem lw_r2 : ∀ q ∈ lw_privs_2, lw_okq q := List.forall_mem_cons.mpr ⟨lw_p16, List.forall_mem_cons.mpr ⟨lw_p17, List.forall_mem_cons.mpr ⟨lw_p18, List.forall_mem_cons.mpr ⟨lw_p19, List.forall_mem_cons.mpr ⟨lw_p20, List.forall_mem_cons.mpr ⟨lw_p21, List.forall_mem_cons.mpr ⟨lw_p22, List.forall_mem_cons.mpr ⟨lw_p23, List.forall_mem_cons.mpr ⟨lw_p24, List.forall_mem_cons.mpr ⟨lw_p25, List.forall_mem_cons.mpr ⟨lw_p26, List.forall_mem_cons.mpr ⟨lw_p27, List.forall_mem_cons.mpr ⟨lw_p28, List.forall_mem_cons.mpr ⟨lw_p29, List.forall_mem_cons.mpr ⟨lw_p30, List.forall_mem_cons.mpr ⟨lw_p31, fun _ h => absurd h List.not_mem_nil⟩⟩⟩⟩⟩⟩⟩⟩⟩⟩⟩⟩⟩⟩⟩⟩
theorem lw_p32 : lw_okq (⟨"PagedHartModel", "branch", "(IIII)V"⟩, 18) := ⟨⟨by decide +kernel, by decide +kernel⟩, List.mem_of_getElem? (i := 384) (by decide +kernel), List.mem_of_getElem? (i := 512) (by decide +kernel), List.mem_of_getElem? (i := 513) (by decide +kernel)⟩
theorem lw_p33 : lw_okq (⟨"PagedHartModel", "load", "(IIII)V"⟩, 18) := ⟨⟨by decide +kernel, by decide +kernel⟩, List.mem_of_getElem? (i := 384) (by decide +kernel), List.mem_of_getElem? (i := 519) (by decide +kernel), List.mem_of_getElem? (i := 520) (by decide +kernel)⟩
theorem lw_p34 : lw_okq (⟨"PagedHartModel", "store", "(IIII)V"⟩, 18) := ⟨⟨by decide +kernel, by decide +kernel⟩, List.mem_of_getElem? (i := 384) (by decide +kernel), List.mem_of_getElem? (i := 523) (by decide +kernel), List.mem_of_getElem? (i := 524) (by decide +kernel)⟩
theorem lw_p35 : lw_okq (⟨"PagedHartModel", "withNumber", "(IIIII)V"⟩, 18) := ⟨⟨by decide +kernel, by decide +kernel⟩, List.mem_of_getElem? (i := 384) (by decide +kernel), List.mem_of_getElem? (i := 527) (by decide +kernel), List.mem_of_getElem? (i := 528) (by decide +kernel)⟩
theorem lw_p36 : lw_okq (⟨"PagedHartModel", "withTwo", "(IIIII)V"⟩, 18) := ⟨⟨by decide +kernel, by decide +kernel⟩, List.mem_of_getElem? (i := 384) (by decide +kernel), List.mem_of_getElem? (i := 540) (by decide +kernel), List.mem_of_getElem? (i := 541) (by decide +kernel)⟩
theorem lw_p37 : lw_okq (⟨"PagedHartModel", "system", "(IIII)V"⟩, 18) := ⟨⟨by decide +kernel, by decide +kernel⟩, List.mem_of_getElem? (i := 384) (by decide +kernel), List.mem_of_getElem? (i := 551) (by decide +kernel), List.mem_of_getElem? (i := 552) (by decide +kernel)⟩
theorem lw_p38 : lw_okq (⟨"PagedHartModel", "exchange", "(IIII)V"⟩, 18) := ⟨⟨by decide +kernel, by decide +kernel⟩, List.mem_of_getElem? (i := 384) (by decide +kernel), List.mem_of_getElem? (i := 558) (by decide +kernel), List.mem_of_getElem? (i := 559) (by decide +kernel)⟩
theorem lw_p39 : lw_okq (⟨"PagedHartModel", "controlOf", "(I)I"⟩, 18) := ⟨⟨by decide +kernel, by decide +kernel⟩, List.mem_of_getElem? (i := 384) (by decide +kernel), List.mem_of_getElem? (i := 565) (by decide +kernel), List.mem_of_getElem? (i := 566) (by decide +kernel)⟩
theorem lw_p40 : lw_okq (⟨"PagedHartModel", "putControl", "(II)V"⟩, 18) := ⟨⟨by decide +kernel, by decide +kernel⟩, List.mem_of_getElem? (i := 384) (by decide +kernel), List.mem_of_getElem? (i := 569) (by decide +kernel), List.mem_of_getElem? (i := 570) (by decide +kernel)⟩
def lw_privs_3 : List (MethodName × Nat) := [(⟨"PagedHartModel", "branch", "(IIII)V"⟩, 18), (⟨"PagedHartModel", "load", "(IIII)V"⟩, 18), (⟨"PagedHartModel", "store", "(IIII)V"⟩, 18), (⟨"PagedHartModel", "withNumber", "(IIIII)V"⟩, 18), (⟨"PagedHartModel", "withTwo", "(IIIII)V"⟩, 18), (⟨"PagedHartModel", "system", "(IIII)V"⟩, 18), (⟨"PagedHartModel", "exchange", "(IIII)V"⟩, 18), (⟨"PagedHartModel", "controlOf", "(I)I"⟩, 18), (⟨"PagedHartModel", "putControl", "(II)V"⟩, 18)]
theorem lw_r3 : ∀ q ∈ lw_privs_3, lw_okq q := List.forall_mem_cons.mpr ⟨lw_p32, List.forall_mem_cons.mpr ⟨lw_p33, List.forall_mem_cons.mpr ⟨lw_p34, List.forall_mem_cons.mpr ⟨lw_p35, List.forall_mem_cons.mpr ⟨lw_p36, List.forall_mem_cons.mpr ⟨lw_p37, List.forall_mem_cons.mpr ⟨lw_p38, List.forall_mem_cons.mpr ⟨lw_p39, List.forall_mem_cons.mpr ⟨lw_p40, fun _ h => absurd h List.not_mem_nil⟩⟩⟩⟩⟩⟩⟩⟩⟩
def lw_privs : List (MethodName × Nat) := lw_privs_1 ++ (lw_privs_2 ++ (lw_privs_3))
def lw_tbl : List Cond := k2_sels lw_privs ++ tables_1
theorem lw_privs_ok : ∀ q ∈ lw_privs, lw_okq q := by
  show ∀ q ∈ lw_privs_1 ++ (lw_privs_2 ++ (lw_privs_3)), lw_okq q
  exact List.forall_mem_append.mpr ⟨lw_r1, List.forall_mem_append.mpr ⟨lw_r2, lw_r3⟩⟩
end
section
/-! ===== BEGIN words of one list among another's, by their places ===== -/
theorem goodIn_r {big : List Cond} (ws : List Cond) (ps : List Nat) (hp : ws = ps.filterMap (fun i => big[i]?)) (h : ws.all goodWord = true) : GoodIn big ws := by
  intro w hw
  have h1 := List.all_eq_true.mp h w hw
  rw [hp] at hw
  obtain ⟨i, -, hi⟩ := List.mem_filterMap.mp hw
  have hm : w ∈ big := by first | exact List.mem_of_getElem? hi | exact List.getElem?_mem hi
  exact ⟨hm, good_of_word h1⟩
theorem goodIn_app {big a b : List Cond} (ha : GoodIn big a) (hb : GoodIn big b) : GoodIn big (a ++ b) := fun w h => (List.mem_append.mp h).elim (ha w) (hb w)
theorem goodIn_ca {big a b : List Cond} {c : Cond} (ha : GoodIn big (c :: a)) (hb : GoodIn big b) : GoodIn big (c :: (a ++ b)) := fun w h => (List.mem_cons.mp h).elim (fun e => ha w (List.mem_cons.mpr (Or.inl e))) (fun h => (List.mem_append.mp h).elim (fun h => ha w (List.mem_cons.mpr (Or.inr h))) (hb w))
theorem goodIn_sub {big ws : List Cond} (hm : ∀ w ∈ ws, w ∈ big) (h : ws.all goodWord = true) : GoodIn big ws := fun w hw => ⟨hm w hw, good_of_word (List.all_eq_true.mp h w hw)⟩
/-! ===== END ===== -/

/-! ===== BEGIN exceptions that leave a method, and their catching by the caller (launches without stack traces) ===== -/
section VXA
/-! The laws vx_back, vx_callV, vx_callS, vx_callSW, vx_throw0, vx_throwS follow proofs of the library, with one case more: JvmDerived/Free/Laws.lean (Back.of_free), Shelf42/LK1.lean (callV, callS), Shelf/KitTraced.lean (throwNew0V, throwNewS). -/
/-- where a method has thrown q: the class by its name, the cell, what was written, the world -/
def vx_T (XC : String → State → State → Prop) (st : State) (q : Addr) (t : State) (mc ms : Nat) (free : Addr → Prop) : Prop :=
  ∃ (E : String) (ce : Cell) (L : List Loc), XC E st t ∧ t.heap[q]? = some ce ∧ ce.vm = .none ∧ st.vm.findClass E = some ce.cls ∧ st.WarmedH t.vm ∧ st.sameButNew ({ t with vm := st.vm } : State) L mc ms ∧ ∀ z ∈ L, free z.base
def vx_Q (Qc : Array Value → State → Outcome → State → Prop) (XC : String → State → State → Prop) (mc ms : Nat) (free : Addr → Prop) : Array Value → State → Outcome → State → Prop := fun a st o t =>
  (Qc a st o t ∧ ∃ L, FrameEnd st o t L mc ms ∧ ∀ q ∈ L, free q.base) ∨ ∃ q, o = .threw q ∧ vx_T XC st q t mc ms free
/-- a callee that returns or throws -/
def vx_Met (l : Launch) (y : MethodName) (ws : List Cond) (rm : Room) (Pc : Array Value → State → Prop) (Qc : Array Value → State → Outcome → State → Prop) (XC : String → State → State → Prop) (mc ms : Nat) (free : Addr → Prop) : Prop :=
  MetFree l y (headSpec ws rm) Pc (fun _ _ _ _ _ => True) (vx_Q Qc XC mc ms free)
def vx_Post (XC : String → State → State → Prop) (mc ms : Nat) (free : Addr → Prop) : Pt → Array Value → Addr → Pt → Prop := fun A a q B =>
  ∃ (g : JFrame) (mk : MethodId) (t : State) (L : List Loc) (E : String) (ce : Cell), B.U.heap = t.heap ∧ B.U.vm = t.vm ∧ XC E (A.U.calling g mk a) t ∧ t.heap[q]? = some ce ∧ ce.vm = .none ∧ A.U.vm.findClass E = some ce.cls ∧ B.locs = A.locs ++ L ∧ (∀ z ∈ L, free z.base) ∧ B.cells = A.cells + mc ∧ B.slots = A.slots + ms
def vx_Back (l : Launch) (R : Room) (p : Program) (e : Env) (below : List Frame) (s : State) (sargs : Array Value) (y : MethodName) (len W9 : Nat)
    (Pre : Pt → Array Value → Prop) (Post : Pt → Array Value → Option Value → Pt → Prop) (PostX : Pt → Array Value → Addr → Pt → Prop) : Prop :=
  ∀ (m : MethodId) (meth : Method) (c : Code) (A : Pt) (g : JFrame) (ig : Instr) (mk : MethodId) (a : Array Value),
    Stand p l e R s m sargs below meth c A.U A.locs A.cells A.slots → g.method = m → g.locals.size = c.maxLocals → decode c.code g.pc = .ok (ig, len) →
    2 * g.monitorRoom + (g.stack.map fun v => v.category).sum ≤ W9 → A.U.methodNamed? y = some mk → Pre A a →
    (∃ (v : Option Value) (B : Pt), Stand p l e R s m sargs below meth c B.U B.locs B.cells B.slots ∧ Post A a v B ∧
      Steps p.tables e below (doInvoke e (A.U.setTop g) [] mk a).1 (B.U.setTop { g with pc := g.pc + len, stack := v.toList ++ g.stack })) ∨
    (∃ (q : Addr) (B : Pt), Stand p l e R s m sargs below meth c B.U B.locs B.cells B.slots ∧ PostX A a q B ∧
      Steps p.tables e below (doInvoke e (A.U.setTop g) [] mk a).1 ((B.U.setTop g).pushFrame (.throwing q)))
section Payer
variable {l : Launch} {R : Room} {p : Program} {e : Env} {below : List Frame} {s : State} {sargs : Array Value} {y : MethodName} {len W9 : Nat}
theorem vx_back {ws : List Cond} {rm : Room} {Pc : Array Value → State → Prop} {Qc : Array Value → State → Outcome → State → Prop} {XC : String → State → State → Prop} {mc ms : Nat} {free : Addr → Prop} {bytes : ByteArray} {maxL : Nat} {ret : Option FieldType}
    (hM : vx_Met l y ws rm Pc Qc XC mc ms free) (hblind : FrameBlind Pc) (hrc : rm.cells = mc) (hrs : rm.slots = ms)
    (hframes : rm.frames + 1 ≤ R.frames) (hlocals : W9 + (maxL + 11) + rm.locals ≤ R.locals)
    (hws : ∀ w ∈ ws, ∀ a' U, s.WarmedH U.vm → w.before a' U = true) (hcode : Cond.code y bytes maxL ret ∈ ws) (hinit : ∀ a' U, s.WarmedH U.vm → (Cond.initialized y.cls).before a' U = true) :
    vx_Back l R p e below s sargs y len W9 (PreOf R mc ms Pc) (PostOf Qc mc ms free) (vx_Post XC mc ms free) := by
  intro m meth c A g ig mk a X hg hsize hdg hW hn hp
  have h1 : (headSpec ws rm).pre.before a A.U = true := atoms_intro fun w hw => hws w hw _ _ X.warmed
  have h2 : (Cond.code y bytes maxL ret).before a A.U = true := hws _ hcode _ _ X.warmed
  have h3 : (Cond.initialized y.cls).before a A.U = true := hinit _ _ X.warmed
  have h4 : A.cells + (headSpec ws rm).room.cells ≤ R.cells := by rw [show (headSpec ws rm).room.cells = mc from hrc]; exact hp.1
  have h5 : A.slots + (headSpec ws rm).room.slots ≤ R.slots := by rw [show (headSpec ws rm).room.slots = ms from hrs]; exact hp.2.1
  have hPc : Pc a (A.U.calling g mk a) := hblind _ _ _ _ hp.2.2
  obtain ⟨U, Ls, c0, s0⟩ := A
  dsimp only [Pt.U, Pt.locs, Pt.cells, Pt.slots] at h1 h2 h3 h4 h5 X hn hPc ⊢
  obtain ⟨methY, cY, hmY, hcY, -, hlY, -, -, -, -⟩ := Cond.code_spec hn h2
  obtain ⟨kY, hkY, -⟩ := className_of_methodNamed hn
  have hinitY : kY.init = .initialized := Cond.initialized_spec (findClass_of_methodNamed hn) hkY h3
  have h : At U g.method c below := by rw [hg]; exact X.here
  have hlocals9 : W9 + (maxL + 11) + (headSpec ws rm).room.locals ≤ R.locals := hlocals
  have happ : (headSpec ws rm).appliesLoose y e.platform (U.calling g mk a) = true :=
    Spec.appliesLoose_calling (g := g) h hdg hn hkY hinitY
      (X.room_calling (g := g) (R' := (headSpec ws rm).room) hsize hmY hcY hframes (by rw [hlY]; omega) h4 h5) h1
  obtain ⟨mid, hmid⟩ := h.above
  have hfr : (U.setTop g).frames = (.java g :: mid) ++ below := by rw [State.frames_setTop' g h.top, hmid]; rfl
  obtain ⟨o, s₂, hsteps, -, hend, hq⟩ := Steps.callFree hM p X.admits X.cas X.clock (acts := []) hfr happ hPc trivial
  have hq' : vx_Q Qc XC mc ms free a (U.calling g mk a) o s₂ := hq
  rw [State.frames_setTop' g h.top] at hend
  obtain ⟨g₀, hg0⟩ := Option.isSome_iff_exists.mp h.top
  obtain ⟨r, hr⟩ := State.topJava?_eq_some.mp hg0
  have hr' : (({ U with heap := s₂.heap, slotsUsed := s₂.slotsUsed } : State).setVm s₂.vm).frames = .java g₀ :: r := hr
  rcases hq' with ⟨hqc, L, hfe, hL⟩ | ⟨q, rfl, E, ce, L, hx, hce, hcv, hcl, hW₂, hsm, hL⟩
  · obtain ⟨⟨v, rfl⟩, hW₂, e2, q2, q3, q4, q5, q6⟩ := id hfe
    have e3 : s₂ = ({ (U.calling g mk a).setFrames s₂.frames with heap := s₂.heap, slotsUsed := s₂.slotsUsed } : State).setVm s₂.vm := by
      have : s₂ = ({ s₂ with vm := (U.calling g mk a).vm } : State).setVm s₂.vm := rfl
      rw [e2] at this
      exact this
    obtain ⟨c₂, i₂, len₂, hc₂, hd₂, hf₂⟩ := hend
    have hW' : U.WarmedH s₂.vm := hW₂
    have hcc : c₂ = c := by
      have h1 : s₂.code? g.method = U.code? g.method := by
        rw [State.code?_eq, State.code?_eq, hW'.alike.method?]
      exact Option.some.inj (hc₂.symm.trans (h1.trans h.code))
    subst hcc
    have hlen : len₂ = len := by rw [hdg] at hd₂; cases hd₂; rfl
    subst hlen
    have hs₂ : s₂ = (({ U with heap := s₂.heap, slotsUsed := s₂.slotsUsed } : State).setVm s₂.vm).setTop { g with pc := g.pc + len₂, stack := v.toList ++ g.stack } := by
      refine e3.trans ?_
      rw [hf₂, State.calling_eq h.top, State.setFrames_setFrames, State.setTop_of_frames _ hr', hr]
      rfl
    have hsame : U.sameButNew ({ U with heap := s₂.heap, slotsUsed := s₂.slotsUsed } : State) L mc ms := by
      refine ⟨?_, q2, q3, q4, q5, q6⟩
      obtain ⟨t, ht, -⟩ := State.frames_cons hr
      show ({ U with heap := s₂.heap, slotsUsed := s₂.slotsUsed } : State) = { U.setFrames U.frames with heap := s₂.heap, slotsUsed := s₂.slotsUsed }
      rw [State.setFrames_self ht]
    subst hg
    refine Or.inl ⟨v, ⟨(({ U with heap := s₂.heap, slotsUsed := s₂.slotsUsed } : State).setVm s₂.vm), Ls ++ L, c0 + mc, s0 + ms⟩,
      ⟨X.admits, X.cas, X.clock, X.frames, X.room, X.hears, X.method, X.code, (X.here.setHeapUsed s₂.heap s₂.slotsUsed).setVm hW'.alike, X.tail, State.WarmedH.trans X.warmed hW', X.limits, X.bytes, X.same.trans (hsame.setVm s.vm)⟩,
      ⟨g, mk, s₂, L, rfl, rfl, hqc, rfl, hL, rfl, rfl⟩, ?_⟩
    show Steps p.tables e below _ ((({ U with heap := s₂.heap, slotsUsed := s₂.slotsUsed } : State).setVm s₂.vm).setTop { g with pc := g.pc + len₂, stack := v.toList ++ g.stack })
    rw [← hs₂]
    exact hsteps
  · obtain ⟨e2, q2, q3, q4, q5, q6⟩ := id hsm
    have e3 : s₂ = ({ (U.calling g mk a).setFrames s₂.frames with heap := s₂.heap, slotsUsed := s₂.slotsUsed } : State).setVm s₂.vm := by
      have : s₂ = ({ s₂ with vm := (U.calling g mk a).vm } : State).setVm s₂.vm := rfl
      rw [e2] at this
      exact this
    have hf₂ : s₂.frames = .throwing q :: .java g :: U.frames.tail := hend
    have hW' : U.WarmedH s₂.vm := hW₂
    have hs₂ : s₂ = ((({ U with heap := s₂.heap, slotsUsed := s₂.slotsUsed } : State).setVm s₂.vm).setTop g).pushFrame (.throwing q) := by
      refine e3.trans ?_
      rw [hf₂, State.calling_eq h.top, State.setFrames_setFrames, State.pushFrame, State.frames_setTop _ hr', State.setTop_of_frames _ hr', State.setFrames_setFrames, hr]
      rfl
    have hsame : U.sameButNew ({ U with heap := s₂.heap, slotsUsed := s₂.slotsUsed } : State) L mc ms := by
      refine ⟨?_, q2, q3, q4, q5, q6⟩
      obtain ⟨t, ht, -⟩ := State.frames_cons hr
      show ({ U with heap := s₂.heap, slotsUsed := s₂.slotsUsed } : State) = { U.setFrames U.frames with heap := s₂.heap, slotsUsed := s₂.slotsUsed }
      rw [State.setFrames_self ht]
    subst hg
    refine Or.inr ⟨q, ⟨(({ U with heap := s₂.heap, slotsUsed := s₂.slotsUsed } : State).setVm s₂.vm), Ls ++ L, c0 + mc, s0 + ms⟩,
      ⟨X.admits, X.cas, X.clock, X.frames, X.room, X.hears, X.method, X.code, (X.here.setHeapUsed s₂.heap s₂.slotsUsed).setVm hW'.alike, X.tail, State.WarmedH.trans X.warmed hW', X.limits, X.bytes, X.same.trans (hsame.setVm s.vm)⟩,
      ⟨g, mk, s₂, L, E, ce, rfl, rfl, hx, hce, hcv, hcl, rfl, hL, rfl, rfl⟩, ?_⟩
    show Steps p.tables e below _ (((({ U with heap := s₂.heap, slotsUsed := s₂.slotsUsed } : State).setVm s₂.vm).setTop g).pushFrame (.throwing q))
    rw [← hs₂]
    exact hsteps
end Payer
section Calls
variable {p : Program} {l : Launch} {e : Env} {R : Room} {s : State} {m : MethodId} {args : Array Value} {below : List Frame} {meth : Method} {c : Code} {T : State} {locs : List Loc} {cells slots : Nat}
theorem vx_callV (X : Stand p l e R s m args below meth c T locs cells slots) (hexec : p.tables.exec = Jvm.exec) {own C : String} {index : Nat} {y : MethodName} {bytes : ByteArray} {maxL : Nat} {ret : Option FieldType}
    (hown : s.vm.findClass own = some m.cls) (hlink : (Cond.methodLink own index y).before args s = true) (hinst : (Cond.instanceMethod y).before args s = true) (hsel : (Cond.selects C y y).before args s = true)
    (hcode : (Cond.code y bytes maxL ret).before args s = true) (hy : y.cls ≠ "java/lang/invoke/MethodHandle" ∧ y.cls ≠ "java/lang/invoke/VarHandle")
    {W9 : Nat} {Pre : Pt → Array Value → Prop} {Post : Pt → Array Value → Option Value → Pt → Prop} {PostX : Pt → Array Value → Addr → Pt → Prop} (hK : vx_Back l R p e below s args y 3 W9 Pre Post PostX)
    {b : Addr} {cellB : Cell} (hcell : T.heap[b]? = some cellB) (hobj : cellB.vm.isStatics = false) (hcls : s.vm.findClass C = some cellB.cls)
    {g : JFrame} (hg : g.method = m) (hsize : g.locals.size = c.maxLocals) {argsL rest : List Value} (hlen : ∀ sig, parseMethodDescriptor y.desc = some sig → argsL.length = sig.parameters.length)
    (hstack : g.stack = argsL.reverse ++ .ref b :: rest) (hW : 2 * g.monitorRoom + (rest.map fun v => v.category).sum ≤ W9) (hdg : decode c.code g.pc = .ok (.invokevirtual index, 3))
    (hpre : ∀ vm₁, s.WarmedH vm₁ → Pre ⟨T.setVm vm₁, locs, cells, slots⟩ (Value.ref b :: argsL).toArray) :
    (∃ (v : Option Value) (vm₁ : Vm) (B : Pt), s.WarmedH vm₁ ∧ Stand p l e R s m args below meth c B.U B.locs B.cells B.slots ∧ Post ⟨T.setVm vm₁, locs, cells, slots⟩ (Value.ref b :: argsL).toArray v B ∧
      ∀ target, Steps p.tables e below (B.U.setTop { g with pc := g.pc + 3, stack := v.toList ++ rest }) target → Steps p.tables e below (T.setTop g) target) ∨
    (∃ (q : Addr) (vm₁ : Vm) (B : Pt), s.WarmedH vm₁ ∧ Stand p l e R s m args below meth c B.U B.locs B.cells B.slots ∧ PostX ⟨T.setVm vm₁, locs, cells, slots⟩ (Value.ref b :: argsL).toArray q B ∧
      Steps p.tables e below (T.setTop g) ((B.U.setTop { g with stack := rest }).pushFrame (.throwing q))) := by
  obtain ⟨mk, methM, hnamed, hmethM, hstM, habM⟩ := Cond.instanceMethod_spec hinst
  obtain ⟨methM', cM, hmethM', -, -, -, -, -, -, hsigM⟩ := Cond.code_spec hnamed hcode
  cases hmethM.symm.trans hmethM'
  obtain ⟨c2, r2, m2, q1, q2, q3, q4, kP, hkP, hkPi⟩ := Cond.selects_spec hsel
  cases hcls.symm.trans q1
  cases (State.methodFound?_of_named hnamed hy).symm.trans q2
  cases hnamed.symm.trans q3
  have hselP : selectMethod e.platform s.vm cellB.cls mk = .method mk := by rw [Launch.admits_selectMethod X.admits]; exact q4
  obtain ⟨vm₁, X₁, hstep₁⟩ := X.invokevirtual hexec hown hlink hnamed hmethM hstM hkP hkPi hy (a := b) (cell := cellB) hcell
    (fun z h => by rw [h] at hobj; cases hobj) hselP hmethM habM hkP hkPi (g := g) hg (argsL := argsL) (rest := rest) (hlen _ hsigM) hstack hdg
  rcases hK m meth c ⟨T.setVm vm₁, locs, cells, slots⟩ { g with stack := rest } (.invokevirtual index) mk (Value.ref b :: argsL).toArray X₁ hg hsize hdg hW (X₁.named hnamed) (hpre vm₁ X₁.warmed) with ⟨v, B, X', hpost, hsteps⟩ | ⟨q, B, X', hpost, hsteps⟩
  · exact Or.inl ⟨v, vm₁, B, X₁.warmed, X', hpost, fun target h => hstep₁ _ fun acts => by rw [doInvoke_state]; exact hsteps.trans h⟩
  · exact Or.inr ⟨q, vm₁, B, X₁.warmed, X', hpost, hstep₁ _ fun acts => by rw [doInvoke_state]; exact hsteps⟩
theorem vx_callS (X : Stand p l e R s m args below meth c T locs cells slots) (hexec : p.tables.exec = Jvm.exec) {own : String} {index : Nat} {y : MethodName} {bytes : ByteArray} {maxL : Nat} {ret : Option FieldType}
    (hown : s.vm.findClass own = some m.cls) (hlink : (Cond.methodLink own index y).before args s = true) (hstat : (Cond.static y).before args s = true) (hinit : (Cond.initialized y.cls).before args s = true)
    (hcode : (Cond.code y bytes maxL ret).before args s = true) (hy : y.cls ≠ "java/lang/invoke/MethodHandle" ∧ y.cls ≠ "java/lang/invoke/VarHandle")
    {W9 : Nat} {Pre : Pt → Array Value → Prop} {Post : Pt → Array Value → Option Value → Pt → Prop} {PostX : Pt → Array Value → Addr → Pt → Prop} (hK : vx_Back l R p e below s args y 3 W9 Pre Post PostX)
    {g : JFrame} (hg : g.method = m) (hsize : g.locals.size = c.maxLocals) {argsL rest : List Value} (hlen : ∀ sig, parseMethodDescriptor y.desc = some sig → argsL.length = sig.parameters.length)
    (hstack : g.stack = argsL.reverse ++ rest) (hW : 2 * g.monitorRoom + (rest.map fun v => v.category).sum ≤ W9) (hdg : decode c.code g.pc = .ok (.invokestatic index, 3))
    (hpre : ∀ vm₁, s.WarmedH vm₁ → Pre ⟨T.setVm vm₁, locs, cells, slots⟩ argsL.toArray) :
    (∃ (v : Option Value) (vm₁ : Vm) (B : Pt), s.WarmedH vm₁ ∧ Stand p l e R s m args below meth c B.U B.locs B.cells B.slots ∧ Post ⟨T.setVm vm₁, locs, cells, slots⟩ argsL.toArray v B ∧
      ∀ target, Steps p.tables e below (B.U.setTop { g with pc := g.pc + 3, stack := v.toList ++ rest }) target → Steps p.tables e below (T.setTop g) target) ∨
    (∃ (q : Addr) (vm₁ : Vm) (B : Pt), s.WarmedH vm₁ ∧ Stand p l e R s m args below meth c B.U B.locs B.cells B.slots ∧ PostX ⟨T.setVm vm₁, locs, cells, slots⟩ argsL.toArray q B ∧
      Steps p.tables e below (T.setTop g) ((B.U.setTop { g with stack := rest }).pushFrame (.throwing q))) := by
  obtain ⟨mk, hnamed⟩ := Cond.code_named hcode
  obtain ⟨methM, cM, hmethM, -, -, -, -, -, -, hsigM⟩ := Cond.code_spec hnamed hcode
  have hstatic : methM.isStatic = true := Cond.static_spec hnamed hmethM hstat
  obtain ⟨kP, hkP, -⟩ := className_of_methodNamed hnamed
  have hinitP : kP.init = .initialized := Cond.initialized_spec (findClass_of_methodNamed hnamed) hkP hinit
  obtain ⟨vm₁, X₁, hstep₁⟩ := X.invokestatic hexec hown hlink hnamed hmethM hstatic hkP hinitP hy (g := g) hg (argsL := argsL) (rest := rest) (hlen _ hsigM) hstack hdg
  rcases hK m meth c ⟨T.setVm vm₁, locs, cells, slots⟩ { g with stack := rest } (.invokestatic index) mk argsL.toArray X₁ hg hsize hdg hW (X₁.named hnamed) (hpre vm₁ X₁.warmed) with ⟨v, B, X', hpost, hsteps⟩ | ⟨q, B, X', hpost, hsteps⟩
  · exact Or.inl ⟨v, vm₁, B, X₁.warmed, X', hpost, fun target h => hstep₁ _ fun acts => by rw [doInvoke_state]; exact hsteps.trans h⟩
  · exact Or.inr ⟨q, vm₁, B, X₁.warmed, X', hpost, hstep₁ _ fun acts => by rw [doInvoke_state]; exact hsteps⟩
end Calls
theorem vx_cls {s : State} {T : State} {vm₁ : Vm} {E : String} {k : ClassId} (hW : s.WarmedH vm₁) (h : (T.setVm vm₁).vm.findClass E = some k) : s.vm.findClass E = some k := by
  have h1 : vm₁.findClass E = some k := h
  rw [hW.alike.findClass] at h1
  exact h1
/-- the method's frame g, with q thrown over it -/
def vx_W (p : Program) (l : Launch) (e : Env) (R : Room) (s : State) (m : MethodId) (args : Array Value) (below : List Frame) (meth : Method) (c : Code) (H : Heap) (locs : List Loc) (cells slots : Nat) (Q : State → Prop) (g : JFrame) (q : Addr) : Prop :=
  ∀ T : State, T.heap = H → Stand p l e R s m args below meth c T locs cells slots → ∃ t, Steps p.tables e below ((T.setTop g).pushFrame (.throwing q)) t ∧ Q t
def vx_Run (p : Program) (l : Launch) (e : Env) (R : Room) (s : State) (m : MethodId) (args : Array Value) (below : List Frame) (meth : Method) (c : Code) (H : Heap) (locs : List Loc) (cells slots mc ms : Nat) (g : JFrame) (rest : List Value) (Qa : State → Outcome → State → Prop) (XC : String → State → State → Prop) (free : Addr → Prop) : Prop :=
  ∀ T : State, T.heap = H → Stand p l e R s m args below meth c T locs cells slots →
    (∃ (v : Option Value) (st₀ t T' : State) (L : List Loc), st₀.heap = H ∧ Stand p l e R s m args below meth c T' (locs ++ L) (cells + mc) (slots + ms) ∧ (∀ q ∈ L, free q.base) ∧ T'.heap = t.heap ∧ T'.vm = t.vm ∧ Qa st₀ (.returned v) t ∧
      Goes p e below T g T' { g with pc := g.pc + 3, stack := v.toList ++ rest }) ∨
    (∃ (q : Addr) (st₀ t T' : State) (L : List Loc) (E : String) (ce : Cell), st₀.heap = H ∧ Stand p l e R s m args below meth c T' (locs ++ L) (cells + mc) (slots + ms) ∧ (∀ z ∈ L, free z.base) ∧ T'.heap = t.heap ∧ T'.vm = t.vm ∧ XC E st₀ t ∧ t.heap[q]? = some ce ∧ ce.vm = .none ∧ s.vm.findClass E = some ce.cls ∧
      Steps p.tables e below (T.setTop g) ((T'.setTop { g with stack := rest }).pushFrame (.throwing q)))
def vx_X {S : Type} (px : S → Prop) (B : String → S → State → Prop) (A : Nat → Prop) : String → State → State → Prop := fun E st t => ∃ u : S, px u ∧ B E u t ∧ va_F A st t
section Runs
variable {p : Program} {l : Launch} {e : Env} {R : Room} {s : State} {m : MethodId} {args : Array Value} {below : List Frame} {meth : Method} {c : Code} {H : Heap} {locs : List Loc} {cells slots : Nat}
variable {y : MethodName} {bytes cc : ByteArray} {maxL nL mc ms n index : Nat} {ret : Option FieldType} {ws : List Cond} {rm : Room} {Pc : Array Value → State → Prop} {Qc : Array Value → State → Outcome → State → Prop} {XC : String → State → State → Prop} {free : Addr → Prop} {Ts : List Cond} {own C : String} {b : Addr} {As rest : List Value} {g : JFrame}
theorem vx_callBack (cb : CallB R s args own index y bytes maxL ret ws rm mc ms n) (hM : vx_Met l y ws rm Pc Qc XC mc ms free) (hbl : FrameBlind Pc) : vx_Back l R p e below s args y 3 8 (PreOf R mc ms Pc) (PostOf Qc mc ms free) (vx_Post XC mc ms free) := by
  obtain ⟨hrc, hrs, hfr, hlo, hws, hcw, -, hini, -⟩ := cb
  exact vx_back (bytes := bytes) (maxL := maxL) (ret := ret) hM hbl hrc hrs hfr hlo hws hcw (fun a' U hW => word_at hW (Or.inl (by first | rfl | simp [Cond.onTables, Cond.keeps, Cond.steady])) hini)
theorem vx_runV (S : CallFix p m c cc nL s args Ts own) (hM : vx_Met l y ws rm Pc Qc XC mc ms free) (cw : CallW R s args own C index y bytes maxL ret ws rm mc ms n) (hp : PreV s H C b Pc As)
    (hg : g.method = m) (hn : As.length = n) (hsize : g.locals.size = nL) (hstack : g.stack = As.reverse ++ .ref b :: rest) (hW : 2 * g.monitorRoom + (rest.map fun v => v.category).sum ≤ 8) (hdg : decode cc g.pc = .ok (.invokevirtual index, 3)) (hf : cells + mc ≤ R.cells ∧ slots + ms ≤ R.slots) :
    vx_Run p l e R s m args below meth c H locs cells slots mc ms g rest (Qc (Value.ref b :: As).toArray) XC free := by
  have hK : vx_Back l R p e below s args y 3 8 (PreOf R mc ms Pc) (PostOf Qc mc ms free) (vx_Post XC mc ms free) := vx_callBack cw.1 hM hp.1
  obtain ⟨⟨-, -, -, -, -, -, hcode, -, hy, hlen, hl⟩, hin, hse⟩ := cw
  obtain ⟨hx, hb, hml, ho, -⟩ := S
  obtain ⟨-, ⟨cellB, hcB, hoB, hclB⟩, hPc⟩ := hp
  intro T hT X
  rcases vx_callV X hx (C := C) (bytes := bytes) (maxL := maxL) (ret := ret) ho hl hin hse hcode hy hK (by rw [hT]; exact hcB) hoB hclB hg (hsize.trans hml.symm) (argsL := As) (rest := rest) (fun sig h => hn.trans (hlen sig h)) hstack hW (by rw [hb]; exact hdg)
    (fun vm₁ hW₁ => ⟨hf.1, hf.2, hPc (T.setVm vm₁) hT hW₁⟩) with ⟨v, vm₁, ⟨U', l2, c2, s2⟩, hW₁, X', ⟨g', mk, t, L, e1, e2, hq, h1, hL, h2, h3⟩, st⟩ | ⟨q, vm₁, ⟨U', l2, c2, s2⟩, hW₁, X', ⟨g', mk, t, L, E, ce, e1, e2, hq, hce, hcv, hcl, h1, hL, h2, h3⟩, st⟩
  · dsimp only [Pt.U, Pt.locs, Pt.cells, Pt.slots] at X' e1 e2 h1 h2 h3 st
    subst h1; subst h2; subst h3
    exact Or.inl ⟨v, (T.setVm vm₁).calling g' mk (Value.ref b :: As).toArray, t, U', L, hT, X', hL, e1, e2, hq, st⟩
  · dsimp only [Pt.U, Pt.locs, Pt.cells, Pt.slots] at X' e1 e2 h1 h2 h3 st hcl
    subst h1; subst h2; subst h3
    exact Or.inr ⟨q, (T.setVm vm₁).calling g' mk (Value.ref b :: As).toArray, t, U', L, E, ce, hT, X', hL, e1, e2, hq, hce, hcv, vx_cls hW₁ hcl, st⟩
theorem vx_runS (S : CallFix p m c cc nL s args Ts own) (hM : vx_Met l y ws rm Pc Qc XC mc ms free) (cw : CallB R s args own index y bytes maxL ret ws rm mc ms n ∧ (Cond.static y).before args s = true) (hp : PreS s H Pc As)
    (hg : g.method = m) (hn : As.length = n) (hsize : g.locals.size = nL) (hstack : g.stack = As.reverse ++ rest) (hW : 2 * g.monitorRoom + (rest.map fun v => v.category).sum ≤ 8) (hdg : decode cc g.pc = .ok (.invokestatic index, 3)) (hf : cells + mc ≤ R.cells ∧ slots + ms ≤ R.slots) :
    vx_Run p l e R s m args below meth c H locs cells slots mc ms g rest (Qc As.toArray) XC free := by
  have hK : vx_Back l R p e below s args y 3 8 (PreOf R mc ms Pc) (PostOf Qc mc ms free) (vx_Post XC mc ms free) := vx_callBack cw.1 hM hp.1
  obtain ⟨⟨-, -, -, -, -, -, hcode, hini, hy, hlen, hl⟩, hstt⟩ := cw
  obtain ⟨hx, hb, hml, ho, -⟩ := S
  intro T hT X
  rcases vx_callS X hx (bytes := bytes) (maxL := maxL) (ret := ret) ho hl hstt hini hcode hy hK hg (hsize.trans hml.symm) (argsL := As) (rest := rest) (fun sig h => hn.trans (hlen sig h)) hstack hW (by rw [hb]; exact hdg)
    (fun vm₁ hW₁ => ⟨hf.1, hf.2, hp.2 (T.setVm vm₁) hT hW₁⟩) with ⟨v, vm₁, ⟨U', l2, c2, s2⟩, hW₁, X', ⟨g', mk, t, L, e1, e2, hq, h1, hL, h2, h3⟩, st⟩ | ⟨q, vm₁, ⟨U', l2, c2, s2⟩, hW₁, X', ⟨g', mk, t, L, E, ce, e1, e2, hq, hce, hcv, hcl, h1, hL, h2, h3⟩, st⟩
  · dsimp only [Pt.U, Pt.locs, Pt.cells, Pt.slots] at X' e1 e2 h1 h2 h3 st
    subst h1; subst h2; subst h3
    exact Or.inl ⟨v, (T.setVm vm₁).calling g' mk As.toArray, t, U', L, hT, X', hL, e1, e2, hq, st⟩
  · dsimp only [Pt.U, Pt.locs, Pt.cells, Pt.slots] at X' e1 e2 h1 h2 h3 st hcl
    subst h1; subst h2; subst h3
    exact Or.inr ⟨q, (T.setVm vm₁).calling g' mk As.toArray, t, U', L, E, ce, hT, X', hL, e1, e2, hq, hce, hcv, vx_cls hW₁ hcl, st⟩
end Runs
section Rows
variable {p : Program} {l : Launch} {e : Env} {R : Room} {s : State} {m : MethodId} {args : Array Value} {below : List Frame} {meth : Method} {c : Code} {H : Heap} {locs : List Loc} {cells slots : Nat} {Q : State → Prop}
variable {mc ms : Nat} {free : Addr → Prop} {A0 A1 : Nat → Prop} {H0 : Heap} {a : Array Value} {pc : Nat} {ls : Array Slot} {st0 rest : List Value}
theorem vx_keep {st₀ t T' : State} {L : List Loc} (h0 : st₀.heap = H) (e1 : T'.heap = t.heap) (hS : va_S A0 H0 H locs) (hA : ∀ q, q < H.size → A1 q → A0 q) (hf : ∀ q, free q → A0 q) (hL : ∀ q ∈ L, free q.base) (hF : va_F A1 st₀ t) :
    H.size ≤ T'.heap.size ∧ (∀ q : Nat, q < H.size → ¬ A1 q → T'.heap[q]? = H[q]?) ∧ va_S A0 H0 T'.heap (locs ++ L) := by
  obtain ⟨hz, hk⟩ := hF
  rw [h0] at hz hk
  exact ⟨by rw [e1]; exact hz, fun q h1 h2 => by rw [e1]; exact hk q h1 h2,
    ⟨Nat.le_trans hS.1 (by rw [e1]; exact hz), fun q h1 h2 => by rw [e1, hk q (Nat.lt_of_lt_of_le h1 hS.1) (fun z => h2 (hA q (Nat.lt_of_lt_of_le h1 hS.1) z))]; exact hS.2.1 q h1 h2, fun q hq => by
      rcases List.mem_append.mp hq with h | h
      · exact hS.2.2 q h
      · exact hf _ (hL q h)⟩⟩
theorem vx_calli {S SX : Type} {post : Int32 → S → Prop} {px : SX → Prop} {B : S → State → Prop} {BX : String → SX → State → Prop} {AX : Nat → Prop} (hr : vx_Run p l e R s m args below meth c H locs cells slots mc ms (F0 m pc ls st0) rest (va_Qi post B A1 a) (vx_X px BX AX) free) (hS : va_S A0 H0 H locs) (hA : ∀ q, q < H.size → A1 q → A0 q) (hf : ∀ q, free q → A0 q) (hAX : ∀ q, q < H.size → AX q → A0 q)
    (kx : ∀ (E : String) (ce : Cell) (q9 : Addr) (u : SX) (t : State) (H1 : Heap) (locs1 : List Loc), t.heap = H1 → s.vm.Alike t.vm → px u → BX E u t → H.size ≤ H1.size → (∀ q : Nat, q < H.size → ¬ AX q → H1[q]? = H[q]?) → va_S A0 H0 H1 locs1 → H1[q9]? = some ce → ce.vm = .none → s.vm.findClass E = some ce.cls → vx_W p l e R s m args below meth c H1 locs1 (cells + mc) (slots + ms) Q (F0 m pc ls rest) q9)
    (kk : ∀ (r : Int32) (u : S) (t : State) (H1 : Heap) (locs1 : List Loc), t.heap = H1 → s.vm.Alike t.vm → post r u → B u t → H.size ≤ H1.size → (∀ q : Nat, q < H.size → ¬ A1 q → H1[q]? = H[q]?) → va_S A0 H0 H1 locs1 → W p l e R s m args below meth c H1 locs1 (cells + mc) (slots + ms) Q (F0 m (pc + 3) ls (.int r :: rest))) : W p l e R s m args below meth c H locs cells slots Q (F0 m pc ls st0) := by
  intro T hT X
  rcases hr T hT X with ⟨v, st₀, t, T', L, h0, X', hL, e1, e2, ⟨⟨r, u, hv, hp, hb⟩, hF⟩, st⟩ | ⟨q, st₀, t, T', L, E, ce, h0, X', hL, e1, e2, ⟨u, hp, hb, hF⟩, hce, hcv, hcl, st⟩
  · cases hv
    obtain ⟨k1, k2, k3⟩ := vx_keep h0 e1 hS hA hf hL hF
    obtain ⟨t2, a1, b1⟩ := kk r u t T'.heap (locs ++ L) e1.symm (by rw [← e2]; exact X'.warmed.alike) hp hb k1 k2 k3 T' rfl X'
    exact ⟨t2, st t2 a1, b1⟩
  · obtain ⟨k1, k2, k3⟩ := vx_keep h0 e1 hS hAX hf hL hF
    obtain ⟨t2, a1, b1⟩ := kx E ce q u t T'.heap (locs ++ L) e1.symm (by rw [← e2]; exact X'.warmed.alike) hp hb k1 k2 k3 (by rw [e1]; exact hce) hcv hcl T' rfl X'
    exact ⟨t2, st.trans a1, b1⟩
theorem vx_calll {S SX : Type} {post : Int64 → S → Prop} {px : SX → Prop} {B : S → State → Prop} {BX : String → SX → State → Prop} {AX : Nat → Prop} (hr : vx_Run p l e R s m args below meth c H locs cells slots mc ms (F0 m pc ls st0) rest (va_Ql post B A1 a) (vx_X px BX AX) free) (hS : va_S A0 H0 H locs) (hA : ∀ q, q < H.size → A1 q → A0 q) (hf : ∀ q, free q → A0 q) (hAX : ∀ q, q < H.size → AX q → A0 q)
    (kx : ∀ (E : String) (ce : Cell) (q9 : Addr) (u : SX) (t : State) (H1 : Heap) (locs1 : List Loc), t.heap = H1 → s.vm.Alike t.vm → px u → BX E u t → H.size ≤ H1.size → (∀ q : Nat, q < H.size → ¬ AX q → H1[q]? = H[q]?) → va_S A0 H0 H1 locs1 → H1[q9]? = some ce → ce.vm = .none → s.vm.findClass E = some ce.cls → vx_W p l e R s m args below meth c H1 locs1 (cells + mc) (slots + ms) Q (F0 m pc ls rest) q9)
    (kk : ∀ (r : Int64) (u : S) (t : State) (H1 : Heap) (locs1 : List Loc), t.heap = H1 → s.vm.Alike t.vm → post r u → B u t → H.size ≤ H1.size → (∀ q : Nat, q < H.size → ¬ A1 q → H1[q]? = H[q]?) → va_S A0 H0 H1 locs1 → W p l e R s m args below meth c H1 locs1 (cells + mc) (slots + ms) Q (F0 m (pc + 3) ls (.long r :: rest))) : W p l e R s m args below meth c H locs cells slots Q (F0 m pc ls st0) := by
  intro T hT X
  rcases hr T hT X with ⟨v, st₀, t, T', L, h0, X', hL, e1, e2, ⟨⟨r, u, hv, hp, hb⟩, hF⟩, st⟩ | ⟨q, st₀, t, T', L, E, ce, h0, X', hL, e1, e2, ⟨u, hp, hb, hF⟩, hce, hcv, hcl, st⟩
  · cases hv
    obtain ⟨k1, k2, k3⟩ := vx_keep h0 e1 hS hA hf hL hF
    obtain ⟨t2, a1, b1⟩ := kk r u t T'.heap (locs ++ L) e1.symm (by rw [← e2]; exact X'.warmed.alike) hp hb k1 k2 k3 T' rfl X'
    exact ⟨t2, st t2 a1, b1⟩
  · obtain ⟨k1, k2, k3⟩ := vx_keep h0 e1 hS hAX hf hL hF
    obtain ⟨t2, a1, b1⟩ := kx E ce q u t T'.heap (locs ++ L) e1.symm (by rw [← e2]; exact X'.warmed.alike) hp hb k1 k2 k3 (by rw [e1]; exact hce) hcv hcl T' rfl X'
    exact ⟨t2, st.trans a1, b1⟩
theorem vx_callf {S SX : Type} {post : UInt32 → S → Prop} {px : SX → Prop} {B : S → State → Prop} {BX : String → SX → State → Prop} {AX : Nat → Prop} (hr : vx_Run p l e R s m args below meth c H locs cells slots mc ms (F0 m pc ls st0) rest (va_Qf post B A1 a) (vx_X px BX AX) free) (hS : va_S A0 H0 H locs) (hA : ∀ q, q < H.size → A1 q → A0 q) (hf : ∀ q, free q → A0 q) (hAX : ∀ q, q < H.size → AX q → A0 q)
    (kx : ∀ (E : String) (ce : Cell) (q9 : Addr) (u : SX) (t : State) (H1 : Heap) (locs1 : List Loc), t.heap = H1 → s.vm.Alike t.vm → px u → BX E u t → H.size ≤ H1.size → (∀ q : Nat, q < H.size → ¬ AX q → H1[q]? = H[q]?) → va_S A0 H0 H1 locs1 → H1[q9]? = some ce → ce.vm = .none → s.vm.findClass E = some ce.cls → vx_W p l e R s m args below meth c H1 locs1 (cells + mc) (slots + ms) Q (F0 m pc ls rest) q9)
    (kk : ∀ (r : UInt32) (u : S) (t : State) (H1 : Heap) (locs1 : List Loc), t.heap = H1 → s.vm.Alike t.vm → post r u → B u t → H.size ≤ H1.size → (∀ q : Nat, q < H.size → ¬ A1 q → H1[q]? = H[q]?) → va_S A0 H0 H1 locs1 → W p l e R s m args below meth c H1 locs1 (cells + mc) (slots + ms) Q (F0 m (pc + 3) ls (.float r :: rest))) : W p l e R s m args below meth c H locs cells slots Q (F0 m pc ls st0) := by
  intro T hT X
  rcases hr T hT X with ⟨v, st₀, t, T', L, h0, X', hL, e1, e2, ⟨⟨r, u, hv, hp, hb⟩, hF⟩, st⟩ | ⟨q, st₀, t, T', L, E, ce, h0, X', hL, e1, e2, ⟨u, hp, hb, hF⟩, hce, hcv, hcl, st⟩
  · cases hv
    obtain ⟨k1, k2, k3⟩ := vx_keep h0 e1 hS hA hf hL hF
    obtain ⟨t2, a1, b1⟩ := kk r u t T'.heap (locs ++ L) e1.symm (by rw [← e2]; exact X'.warmed.alike) hp hb k1 k2 k3 T' rfl X'
    exact ⟨t2, st t2 a1, b1⟩
  · obtain ⟨k1, k2, k3⟩ := vx_keep h0 e1 hS hAX hf hL hF
    obtain ⟨t2, a1, b1⟩ := kx E ce q u t T'.heap (locs ++ L) e1.symm (by rw [← e2]; exact X'.warmed.alike) hp hb k1 k2 k3 (by rw [e1]; exact hce) hcv hcl T' rfl X'
    exact ⟨t2, st.trans a1, b1⟩
theorem vx_calld {S SX : Type} {post : UInt64 → S → Prop} {px : SX → Prop} {B : S → State → Prop} {BX : String → SX → State → Prop} {AX : Nat → Prop} (hr : vx_Run p l e R s m args below meth c H locs cells slots mc ms (F0 m pc ls st0) rest (va_Qd post B A1 a) (vx_X px BX AX) free) (hS : va_S A0 H0 H locs) (hA : ∀ q, q < H.size → A1 q → A0 q) (hf : ∀ q, free q → A0 q) (hAX : ∀ q, q < H.size → AX q → A0 q)
    (kx : ∀ (E : String) (ce : Cell) (q9 : Addr) (u : SX) (t : State) (H1 : Heap) (locs1 : List Loc), t.heap = H1 → s.vm.Alike t.vm → px u → BX E u t → H.size ≤ H1.size → (∀ q : Nat, q < H.size → ¬ AX q → H1[q]? = H[q]?) → va_S A0 H0 H1 locs1 → H1[q9]? = some ce → ce.vm = .none → s.vm.findClass E = some ce.cls → vx_W p l e R s m args below meth c H1 locs1 (cells + mc) (slots + ms) Q (F0 m pc ls rest) q9)
    (kk : ∀ (r : UInt64) (u : S) (t : State) (H1 : Heap) (locs1 : List Loc), t.heap = H1 → s.vm.Alike t.vm → post r u → B u t → H.size ≤ H1.size → (∀ q : Nat, q < H.size → ¬ A1 q → H1[q]? = H[q]?) → va_S A0 H0 H1 locs1 → W p l e R s m args below meth c H1 locs1 (cells + mc) (slots + ms) Q (F0 m (pc + 3) ls (.double r :: rest))) : W p l e R s m args below meth c H locs cells slots Q (F0 m pc ls st0) := by
  intro T hT X
  rcases hr T hT X with ⟨v, st₀, t, T', L, h0, X', hL, e1, e2, ⟨⟨r, u, hv, hp, hb⟩, hF⟩, st⟩ | ⟨q, st₀, t, T', L, E, ce, h0, X', hL, e1, e2, ⟨u, hp, hb, hF⟩, hce, hcv, hcl, st⟩
  · cases hv
    obtain ⟨k1, k2, k3⟩ := vx_keep h0 e1 hS hA hf hL hF
    obtain ⟨t2, a1, b1⟩ := kk r u t T'.heap (locs ++ L) e1.symm (by rw [← e2]; exact X'.warmed.alike) hp hb k1 k2 k3 T' rfl X'
    exact ⟨t2, st t2 a1, b1⟩
  · obtain ⟨k1, k2, k3⟩ := vx_keep h0 e1 hS hAX hf hL hF
    obtain ⟨t2, a1, b1⟩ := kx E ce q u t T'.heap (locs ++ L) e1.symm (by rw [← e2]; exact X'.warmed.alike) hp hb k1 k2 k3 (by rw [e1]; exact hce) hcv hcl T' rfl X'
    exact ⟨t2, st.trans a1, b1⟩
theorem vx_callv {S SX : Type} {post : S → Prop} {px : SX → Prop} {B : S → State → Prop} {BX : String → SX → State → Prop} {AX : Nat → Prop} (hr : vx_Run p l e R s m args below meth c H locs cells slots mc ms (F0 m pc ls st0) rest (va_Qv post B A1 a) (vx_X px BX AX) free) (hS : va_S A0 H0 H locs) (hA : ∀ q, q < H.size → A1 q → A0 q) (hf : ∀ q, free q → A0 q) (hAX : ∀ q, q < H.size → AX q → A0 q)
    (kx : ∀ (E : String) (ce : Cell) (q9 : Addr) (u : SX) (t : State) (H1 : Heap) (locs1 : List Loc), t.heap = H1 → s.vm.Alike t.vm → px u → BX E u t → H.size ≤ H1.size → (∀ q : Nat, q < H.size → ¬ AX q → H1[q]? = H[q]?) → va_S A0 H0 H1 locs1 → H1[q9]? = some ce → ce.vm = .none → s.vm.findClass E = some ce.cls → vx_W p l e R s m args below meth c H1 locs1 (cells + mc) (slots + ms) Q (F0 m pc ls rest) q9)
    (kk : ∀ (u : S) (t : State) (H1 : Heap) (locs1 : List Loc), t.heap = H1 → s.vm.Alike t.vm → post u → B u t → H.size ≤ H1.size → (∀ q : Nat, q < H.size → ¬ A1 q → H1[q]? = H[q]?) → va_S A0 H0 H1 locs1 → W p l e R s m args below meth c H1 locs1 (cells + mc) (slots + ms) Q (F0 m (pc + 3) ls (rest))) : W p l e R s m args below meth c H locs cells slots Q (F0 m pc ls st0) := by
  intro T hT X
  rcases hr T hT X with ⟨v, st₀, t, T', L, h0, X', hL, e1, e2, ⟨⟨u, hv, hp, hb⟩, hF⟩, st⟩ | ⟨q, st₀, t, T', L, E, ce, h0, X', hL, e1, e2, ⟨u, hp, hb, hF⟩, hce, hcv, hcl, st⟩
  · cases hv
    obtain ⟨k1, k2, k3⟩ := vx_keep h0 e1 hS hA hf hL hF
    obtain ⟨t2, a1, b1⟩ := kk u t T'.heap (locs ++ L) e1.symm (by rw [← e2]; exact X'.warmed.alike) hp hb k1 k2 k3 T' rfl X'
    exact ⟨t2, st t2 a1, b1⟩
  · obtain ⟨k1, k2, k3⟩ := vx_keep h0 e1 hS hAX hf hL hF
    obtain ⟨t2, a1, b1⟩ := kx E ce q u t T'.heap (locs ++ L) e1.symm (by rw [← e2]; exact X'.warmed.alike) hp hb k1 k2 k3 (by rw [e1]; exact hce) hcv hcl T' rfl X'
    exact ⟨t2, st.trans a1, b1⟩
/-- caught by the row x of this method's table; the rows ahead don't take it -/
theorem vx_catch {own name : String} {E : String} {ce : Cell} {q : Addr} (hown : s.vm.findClass own = some m.cls) (pre : List ExceptionTableEntry) (x : ExceptionTableEntry) (suf : List ExceptionTableEntry) (hsplit : c.exceptionTable.toList = pre ++ x :: suf)
    (hpass : ∀ z ∈ pre, covers z pc = false ∨ (z.catchType ≠ 0 ∧ ∃ nm : String, (Cond.classLink own z.catchType nm).before args s = true ∧ va_Nc E nm s)) (hx : covers x pc = true) (h0 : x.catchType ≠ 0)
    (hlink : (Cond.classLink own x.catchType name).before args s = true) (hcast : (Cond.castable E name).before args s = true) (hcell : H[q]? = some ce) (hv : ce.vm = .none) (hcl : s.vm.findClass E = some ce.cls)
    (kk : W p l e R s m args below meth c H locs cells slots Q (F0 m x.handlerPc ls [.ref q])) : vx_W p l e R s m args below meth c H locs cells slots Q (F0 m pc ls rest) q := by
  intro T hT X
  have hpl : e.platform.magicAccessors = ({} : Platform).magicAccessors := by rw [X.admits.platform]
  obtain ⟨c3, c4, hc3, hc4, hasg⟩ := Cond.castable_spec hcast
  cases Option.some.inj (hc3.symm.trans hcl)
  obtain ⟨c5, hc5, hcl5⟩ := Cond.classLink_spec hown hlink e.platform hpl
  cases Option.some.inj (hc4.symm.trans hc5)
  obtain ⟨vm', X', st⟩ := X.thenCaughtThrough q (g := F0 m pc ls rest) rfl (Steps.refl _) (by rw [hT]; exact hcell) (by rw [hv]; rfl) (by obtain ⟨k9, h9, -⟩ := Vm.findClass_spec hcl; exact ⟨k9, h9⟩) pre x suf hsplit
    (fun z hz => by
      rcases hpass z hz with h | ⟨hz0, nm, hl1, hn1⟩
      · exact Or.inl h
      · obtain ⟨c6, hc6, hcl6⟩ := Cond.classLink_spec hown hl1 e.platform hpl
        obtain ⟨a8, b8, h1, h2, h3⟩ := hn1
        cases Option.some.inj (h1.symm.trans hcl)
        cases Option.some.inj (h2.symm.trans hc6)
        exact Or.inr ⟨hz0, _, hcl6, h3⟩) hx (Or.inr ⟨h0, c4, hcl5, hasg⟩)
  obtain ⟨t, a1, b1⟩ := kk (T.setVm vm') hT X'
  exact ⟨t, st.trans a1, b1⟩
end Rows
section Ends
variable {p : Program} {l : Launch} {e : Env} {R : Room} {s : State} {m : MethodId} {args : Array Value} {below : List Frame} {meth : Method} {c : Code} {H : Heap} {locs : List Loc} {cells slots : Nat} {Q : State → Prop}
variable {mc ms : Nat} {free : Addr → Prop} {A0 A1 : Nat → Prop} {H0 : Heap} {a : Array Value} {ls : Array Slot} {st0 rest : List Value}
variable {Qc : Array Value → State → Outcome → State → Prop} {XC : String → State → State → Prop}
/-- what a body that may throw owes at its end -/
def vx_MQ (below : List Frame) (Qc : Array Value → State → Outcome → State → Prop) (XC : String → State → State → Prop) (a : Array Value) (s : State) (mc ms : Nat) (free : Addr → Prop) : State → Prop := fun t =>
  ∃ o, t.status = .running ∧ Ended t below o ∧ vx_Q Qc XC mc ms free a s o t
theorem vx_ret {g : JFrame} {mc ms : Nat} (k : W p l e R s m args below meth c H locs cells slots (MQ below Qc args s mc ms free) g) : W p l e R s m args below meth c H locs cells slots (vx_MQ below Qc XC args s mc ms free) g := by
  intro T hT X
  obtain ⟨t, a1, o, b1, b2, b3, b4⟩ := k T hT X
  exact ⟨t, a1, o, b1, b2, Or.inl ⟨b3, b4⟩⟩
/-- not caught here: it goes on to the caller -/
theorem vx_widen {g : JFrame} {q : Addr} {k n : Nat} (h1 : cells ≤ k) (h2 : slots ≤ n) (kk : vx_W p l e R s m args below meth c H locs k n Q g q) : vx_W p l e R s m args below meth c H locs cells slots Q g q := fun T hT X => kk T hT (stand_widen X h1 h2)
theorem vx_out {pc : Nat} {E : String} {ce : Cell} {q : Addr} {mc ms : Nat} (hout : ∀ x ∈ c.exceptionTable.toList, covers x pc = false) (hlocks : meth.locks = false) (hcell : H[q]? = some ce) (hv : ce.vm = .none) (hcl : s.vm.findClass E = some ce.cls)
    (hx : ∀ t : State, t.heap = H → s.vm.Alike t.vm → XC E s t) (hf : ∀ z ∈ locs, free z.base) (hc : cells ≤ mc) (hs : slots ≤ ms) :
    vx_W p l e R s m args below meth c H locs cells slots (vx_MQ below Qc XC args s mc ms free) (F0 m pc ls rest) q := by
  intro T hT X
  obtain ⟨st1, hrun, hend, hW, hsm⟩ := X.leaveThrown q (g := F0 m pc ls rest) rfl rfl rfl hout hlocks
  have hcell9 : (T.setFrames (.throwing q :: below)).heap[q]? = some ce := by
    show T.heap[q]? = some ce
    rw [hT]; exact hcell
  exact ⟨_, st1, .threw q, hrun, hend, Or.inr ⟨q, rfl, E, ce, locs, hx _ hT hW.alike, hcell9, hv, hcl, hW, hsm.mono hc hs, hf⟩⟩
theorem vx_frame {U : State} {k n : Nat} (h : s.sameButNew ({ U with vm := s.vm } : State) locs k n) : s.heap.size ≤ U.heap.size ∧ ∀ q : Nat, q < s.heap.size → (∀ z ∈ locs, z.base ≠ q) → U.heap[q]? = s.heap[q]? := by
  obtain ⟨-, h2, -, -, -, h6⟩ := h
  refine ⟨h2, fun q hq hz => ?_⟩
  obtain ⟨c9, e1, e2, e3, e4⟩ := h6 q _ (Array.getElem?_eq_getElem hq)
  have hs : c9.slots = (s.heap[q]).slots := Array.ext_getElem? fun i => e4 i fun hm => hz _ hm rfl
  have h9 : c9 = s.heap[q] := by
    rw [hs] at e2
    exact e2
  have e5 : U.heap[q]? = some c9 := e1
  rw [e5, h9, Array.getElem?_eq_getElem hq]
/-- the words of a throw but the four that speak of the heap -/
def vx_no (w : Cond) : Bool := decide (w ≠ .isRef (.static Bundle.tN "UNASSIGNED_STACK" Bundle.steD)) && decide (w ≠ .isRef (.static Bundle.tN "SUPPRESSED_SENTINEL" Bundle.listD)) && decide (w ≠ .laysStatic Bundle.tN "UNASSIGNED_STACK" Bundle.steD) && decide (w ≠ .laysStatic Bundle.tN "SUPPRESSED_SENTINEL" Bundle.listD)
def vx_at0 (own : String) (ic : Nat) (X : String) (names : List String) : List Cond := (Bundle.ownAtoms0 own ic X names).filter vx_no
def vx_atS (own : String) (ic : Nat) (X : String) (names : List String) : List Cond := (Bundle.ownAtoms own ic X names).filter vx_no
/-- a word that the tables alone decide, or a good one -/
def vx_ot (w : Cond) : Bool := w.onTables || goodWord w
theorem vx_ot_at {args a' : Array Value} {s U : State} {w : Cond} (hW : s.WarmedH U.vm) (hvm : s.vm = U.vm) (hg : vx_ot w = true) (h : w.before args s = true) : w.before a' U = true := by
  simp only [vx_ot, Bool.or_eq_true] at hg
  rcases hg with hg | hg
  · exact va_tabs hg hvm h
  · exact word_at hW (good_of_word hg) h
/-- a list's words: the good ones out of the method's own list, the others by premises of their own -/
theorem vx_hat {args : Array Value} {s : State} {L B : List Cond} (h1 : ∀ w ∈ L.filter goodWord, w.before args s = true) (h2 : ∀ w ∈ L.filter (fun w => !goodWord w), w ∈ B) (h3 : ∀ w ∈ B, w.before args s = true) : ∀ w ∈ L, w.before args s = true := by
  intro w hw
  by_cases g : goodWord w = true
  · exact h1 w (List.mem_filter.mpr ⟨hw, g⟩)
  · refine h3 w (h2 w (List.mem_filter.mpr ⟨hw, ?_⟩))
    show (!goodWord w) = true
    cases hgw : goodWord w
    · rfl
    · exact absurd hgw g
theorem vx_c {args : Array Value} {s : State} {w : Cond} {B : List Cond} (h : w.before args s = true) (t : ∀ w ∈ B, w.before args s = true) : ∀ w' ∈ w :: B, w'.before args s = true := fun w' h' => (List.mem_cons.mp h').elim (fun e => by rw [e]; exact h) (t w')
theorem vx_n {args : Array Value} {s : State} : ∀ w ∈ ([] : List Cond), w.before args s = true := fun _ h => nomatch h
theorem vx_own {args : Array Value} {s : State} {L : List Cond} (h1 : ∀ w ∈ L.filter vx_no, w.before args s = true)
    (hU : (Cond.isRef (.static Bundle.tN "UNASSIGNED_STACK" Bundle.steD)).before args s = true) (hN : (Cond.isRef (.static Bundle.tN "SUPPRESSED_SENTINEL" Bundle.listD)).before args s = true)
    (lU : (Cond.laysStatic Bundle.tN "UNASSIGNED_STACK" Bundle.steD).before args s = true) (lN : (Cond.laysStatic Bundle.tN "SUPPRESSED_SENTINEL" Bundle.listD).before args s = true) : ∀ w ∈ L, w.before args s = true := by
  intro w hw
  by_cases e1 : w = .isRef (.static Bundle.tN "UNASSIGNED_STACK" Bundle.steD)
  · rw [e1]; exact hU
  · by_cases e2 : w = .isRef (.static Bundle.tN "SUPPRESSED_SENTINEL" Bundle.listD)
    · rw [e2]; exact hN
    · by_cases e3 : w = .laysStatic Bundle.tN "UNASSIGNED_STACK" Bundle.steD
      · rw [e3]; exact lU
      · by_cases e4 : w = .laysStatic Bundle.tN "SUPPRESSED_SENTINEL" Bundle.listD
        · rw [e4]; exact lN
        · exact h1 w (List.mem_filter.mpr ⟨hw, by unfold vx_no; rw [decide_eq_true e1, decide_eq_true e2, decide_eq_true e3, decide_eq_true e4]; rfl⟩)
/-- where a static field lies, its class's statics cell in H -/
def vx_L (C n d : String) (A : Nat → Prop) (U : State) (H : Heap) : Prop := ∃ (c : ClassId) (k : Class) (i : Nat) (f : Field) (a : Nat) (cell : Cell), U.vm.findClass C = some c ∧ U.fieldFound? C n d = some (c, k, i, f) ∧ f.isStatic = true ∧ k.statics = some a ∧ H[a]? = some cell ∧ cell.vm.isStatics = true ∧ cell.cls = c ∧ f.slot < cell.slots.size ∧ k.staticTypes[f.slot]? = some f.type ∧ ¬ A a
theorem vx_L.moved {C n d : String} {A : Nat → Prop} {u U : State} {H : Heap} (hvm : u.vm.Alike U.vm) (h : vx_L C n d A u H) : vx_L C n d A U H := by
  obtain ⟨c, k, i, f, a, cell, h1, h2, h3, h4, h5, h6, h7, h8, h9, h10⟩ := h
  obtain ⟨k', hi', he⟩ := State.fieldFound?_setVm hvm h2
  exact ⟨c, k', i, f, a, cell, by rw [hvm.findClass]; exact h1, hi', h3, by rw [he]; exact h4, h5, h6, h7, h8, by rw [he]; exact h9, h10⟩
theorem vx_L.kept {C n d : String} {A : Nat → Prop} {U : State} {H H1 : Heap} (h : vx_L C n d A U H) (hq : ∀ a : Nat, a < H.size → ¬ A a → H1[a]? = H[a]?) : vx_L C n d A U H1 := by
  obtain ⟨c, k, i, f, a, cell, h1, h2, h3, h4, h5, h6, h7, h8, h9, h10⟩ := h
  exact ⟨c, k, i, f, a, cell, h1, h2, h3, h4, by rw [hq a (Array.getElem?_eq_some_iff.mp h5).1 h10]; exact h5, h6, h7, h8, h9, h10⟩
theorem vx_L.narrow {C n d : String} {A B : Nat → Prop} {U : State} {H : Heap} (h : vx_L C n d A U H) (hAB : ∀ q, B q → A q) : vx_L C n d B U H := by
  obtain ⟨c, k, i, f, a, cell, h1, h2, h3, h4, h5, h6, h7, h8, h9, h10⟩ := h
  exact ⟨c, k, i, f, a, cell, h1, h2, h3, h4, h5, h6, h7, h8, h9, fun z => h10 (hAB _ z)⟩
theorem vx_L.word {C n d : String} {A : Nat → Prop} {s : State} {args : Array Value} (h : vx_L C n d A s s.heap) : (Cond.laysStatic C n d).before args s = true := by
  obtain ⟨c, k, i, f, a, cell, h1, h2, h3, h4, h5, h6, h7, h8, h9, -⟩ := h
  show (Cond.laysStatic C n d).holds args s none s [] = true
  exact Cond.laysStatic_of h1 h2 h3 h4 h5 h6 h7 h8 h9
/-- .. and what it holds: null or some reference -/
def vx_Zq (C n d : String) (A : Nat → Prop) (U : State) (H : Heap) : Prop := va_Zq C n d A U H ∧ vx_L C n d A U H
theorem vx_Zq.moved {C n d : String} {A : Nat → Prop} {u U : State} {H : Heap} (hvm : u.vm.Alike U.vm) (h : vx_Zq C n d A u H) : vx_Zq C n d A U H := ⟨va_Zq.moved hvm h.1, vx_L.moved hvm h.2⟩
theorem vx_Zq.kept {C n d : String} {A : Nat → Prop} {U : State} {H H1 : Heap} (h : vx_Zq C n d A U H) (hq : ∀ a : Nat, a < H.size → ¬ A a → H1[a]? = H[a]?) : vx_Zq C n d A U H1 := ⟨va_Zq.kept h.1 hq, vx_L.kept h.2 hq⟩
theorem vx_Zq.narrow {C n d : String} {A B : Nat → Prop} {U : State} {H : Heap} (h : vx_Zq C n d A U H) (hAB : ∀ q, B q → A q) : vx_Zq C n d B U H := ⟨va_Zq.narrow h.1 hAB, vx_L.narrow h.2 hAB⟩
theorem vx_Zqof {args : Array Value} {s : State} {C n d : String} {A : Nat → Prop} (hl : (Cond.laysStatic C n d).before args s = true) (hini : (Cond.initialized C).before args s = true) (h : (Cond.isRef (.static C n d)).before args s = true) (hA : ∀ a : Nat, a < s.heap.size → ¬ A a) : vx_Zq C n d A s s.heap := by
  refine ⟨va_Zqof hl hini h hA, ?_⟩
  obtain ⟨c, k, i, f, a, cell, h1, h2, h3, h4, h5, h6, h7, h8, h9⟩ := Cond.laysStatic_spec hl
  exact ⟨c, k, i, f, a, cell, h1, h2, h3, h4, h5, h6, h7, h8, h9, hA a (Array.getElem?_eq_some_iff.mp h5).1⟩
theorem vx_isRef {C n d : String} {v : Value} {A : Nat → Prop} {s : State} {args : Array Value} (h : va_Z C n d v A s s.heap) (hv : v.isRef = true) : (Cond.isRef (.static C n d)).before args s = true := by
  obtain ⟨cf, kf, fi, f, a, cell, h1, h2, h3, h4, h5, h6, h7, -⟩ := h
  have he : (Term.static C n d).eval args s none [] s = some v := by
    simp [Term.eval, State.fieldNamed?, h1, h2, h4, h5, h6, h7]
  simp only [Cond.before, Cond.holds, Cond.value, he]
  cases v <;> simp_all [Value.isRef]
theorem vx_isRefq {C n d : String} {A : Nat → Prop} {s : State} {args : Array Value} (h : va_Zq C n d A s s.heap) : (Cond.isRef (.static C n d)).before args s = true := by
  rcases h with h | ⟨t, h⟩
  · exact vx_isRef h rfl
  · exact vx_isRef h rfl
/-- the same frame, seen from here: as if the method were called anew in this heap -/
theorem vx_rebase {T : State} (X : Stand p l e R s m args below meth c T locs cells slots) {R' : Room} (hf : R'.frames ≤ R.frames) (hl : R'.locals ≤ R.locals) (hc : cells + R'.cells ≤ R.cells) (hs : slots + R'.slots ≤ R.slots) :
    Stand p l e R' ((T.setVm s.vm).setFrames (.invoking m args :: below)) m args below meth c T [] 0 0 := by
  have htop : (T.setVm s.vm).topJava?.isSome := X.here.top
  have hF : ((T.setVm s.vm).setFrames (.invoking m args :: below)).frames = .invoking m args :: below := State.frames_setFrames _ (State.cur_lt_of_top htop)
  obtain ⟨g₀, hg0⟩ := Option.isSome_iff_exists.mp htop
  obtain ⟨r, hr⟩ := State.topJava?_eq_some.mp hg0
  have hl9 : e.platform.stackLimits (T.setVm s.vm).me = e.platform.stackLimits s.me := X.limits
  have hb9 : (T.setVm s.vm).me.stackBytes = s.me.stackBytes := X.bytes
  refine ⟨X.admits, X.cas, X.clock, hF, ?_, X.hears, X.method, X.code, X.here, X.tail, X.warmed, ?_, ?_, ?_⟩
  · have h := X.room
    have hU : ((T.setVm s.vm).setFrames (.invoking m args :: below)).localsInUse = s.localsInUse := by
      rw [State.localsInUse_invoking hF (meth := meth) (c := c) X.method X.code, State.localsInUse_invoking X.frames X.method X.code]
    simp only [State.hasRoom, Bool.and_eq_true, decide_eq_true_eq] at h ⊢
    obtain ⟨⟨⟨⟨h1, h2, h3, h4, h5, h6⟩, h7⟩, h8⟩, h9⟩ := h
    rw [X.frames, List.length_cons] at h2 h3
    have q1 := X.heapSize
    have q2 := X.used
    simp only [hF, hU, List.length_cons, State.stackLimits_setFrames, State.stackBytes_setFrames, hl9, hb9]
    refine ⟨⟨⟨⟨by omega, by omega, by omega, by omega, by omega, h6⟩, ?_⟩, ?_⟩, X.book⟩
    · show T.heap.size + R'.cells ≤ e.platform.maxCells
      omega
    · show T.slotsUsed + R'.slots ≤ e.platform.maxSlots
      omega
  · rw [State.stackLimits_setFrames]; rfl
  · rw [State.stackBytes_setFrames]; rfl
  · refine ⟨?_, Nat.le_refl _, Nat.le_refl _, ?_, ?_, fun a c9 h9 => ⟨c9, h9, rfl, rfl, fun _ _ => rfl⟩⟩
    · obtain ⟨t, ht, -⟩ := State.frames_cons hr
      show T.setVm s.vm = { ((T.setVm s.vm).setFrames (.invoking m args :: below)).setFrames (T.setVm s.vm).frames with heap := T.heap, slotsUsed := T.slotsUsed }
      rw [State.setFrames_setFrames, State.setFrames_self ht]
      rfl
    · show T.slotsUsed = T.slotsUsed + ((T.heap.toList.drop T.heap.size).map (·.slots.size)).sum
      rw [List.drop_eq_nil_of_le (Nat.le_of_eq Array.length_toList)]
      rfl
    · show ((T.heap.toList.drop T.heap.size).map (·.slots.size)).sum ≤ 0
      rw [List.drop_eq_nil_of_le (Nat.le_of_eq Array.length_toList)]
      exact Nat.le_refl _
/-- 'throw new E()': new; dup; invokespecial; athrow -/
theorem vx_throw0 {cc : ByteArray} {pc : Nat} (hexec : p.tables.exec = Jvm.exec) (hb : c.code = cc) (hl : l.stackTraces = false) {own cls : String} {names : List String} {ik ic mc ms : Nat} {A : Nat → Prop}
    (hown : s.vm.findClass own = some m.cls) (hcls : Bundle.fit cls = true) (hnames : ∀ n ∈ names, Bundle.fit n = true)
    (hk : (Cond.classLink own ik cls).before args s = true) (hini : (Cond.initialized cls).before args s = true) (hat : ∀ w ∈ vx_at0 own ic cls names, w.before args s = true)
    (hgood : ∀ w ∈ Cond.classLink own ik cls :: Cond.initialized cls :: vx_at0 own ic cls names, vx_ot w = true)
    (hU : vx_Zq Bundle.tN "UNASSIGNED_STACK" Bundle.steD A s s.heap) (hN : vx_Zq Bundle.tN "SUPPRESSED_SENTINEL" Bundle.listD A s s.heap) (hS : va_S A s.heap H locs) (hsize : ls.size = c.maxLocals)
    (d0 : decode cc pc = .ok (.new ik, 3)) (d3 : decode cc (pc + 3) = .ok (.dup, 1)) (d4 : decode cc (pc + 4) = .ok (.invokespecial ic, 3)) (d7 : decode cc (pc + 7) = .ok (.athrow, 1))
    (hout : ∀ x ∈ c.exceptionTable.toList, covers x (pc + 7) = false)
    (hRframes : names.length + 3 < R.frames) (hRlocals : (rest.map fun v => v.category).sum + (13 * (names.length + 1) + 42) ≤ R.locals) (hRcells : cells + 1 ≤ R.cells) (hRslots : slots + 6 ≤ R.slots) (hlocks : meth.locks = false)
    (hx : ∀ t : State, s.vm.Alike t.vm → H.size ≤ t.heap.size → (∀ q : Nat, q < H.size → t.heap[q]? = H[q]?) → XC cls s t)
    (hf : ∀ z ∈ locs, free z.base) (hc : cells + 1 ≤ mc) (hs : slots + 6 ≤ ms) :
    W p l e R s m args below meth c H locs cells slots (vx_MQ below Qc XC args s mc ms free) (F0 m pc ls rest) := by
  intro T hT X
  have htr : e.platform.stackTraces = false := (show e.platform.stackTraces = l.stackTraces by rw [X.admits.platform]).trans hl
  have Y := vx_rebase X (R' := { frames := R.frames, locals := R.locals, cells := 1, slots := 6 }) (Nat.le_refl _) (Nat.le_refl _) hRcells hRslots
  obtain ⟨s', hA⟩ : ∃ z, z = (T.setVm s.vm).setFrames (.invoking m args :: below) := ⟨_, rfl⟩
  rw [← hA] at Y
  have hvm : s'.vm = s.vm := by rw [hA]; rfl
  have hhp : s'.heap = H := by rw [hA]; exact hT
  have hW0 : s.WarmedH s'.vm := by rw [hvm]; exact State.WarmedH.refl s
  have hat' : ∀ w ∈ vx_at0 own ic cls names, w.before args s' = true := fun w hw => vx_ot_at hW0 hvm.symm (hgood w (List.mem_cons_of_mem _ (List.mem_cons_of_mem _ hw))) (hat w hw)
  have hk' : (Cond.classLink own ik cls).before args s' = true := vx_ot_at hW0 hvm.symm (hgood _ List.mem_cons_self) hk
  have hini' : (Cond.initialized cls).before args s' = true := vx_ot_at hW0 hvm.symm (hgood _ (List.mem_cons_of_mem _ List.mem_cons_self)) hini
  have hU' : vx_Zq Bundle.tN "UNASSIGNED_STACK" Bundle.steD A s' s'.heap := by rw [hhp]; exact vx_Zq.moved hW0.alike (hU.kept hS.2.1)
  have hN' : vx_Zq Bundle.tN "SUPPRESSED_SENTINEL" Bundle.listD A s' s'.heap := by rw [hhp]; exact vx_Zq.moved hW0.alike (hN.kept hS.2.1)
  have h : ∀ w ∈ Bundle.ownAtoms0 own ic cls names, w.before args s' = true := vx_own hat' (vx_isRefq hU'.1) (vx_isRefq hN'.1) hU'.2.word hN'.2.word
  have hown' : s'.vm.findClass own = some m.cls := by rw [hvm]; exact hown
  have hins : (Cond.instantiable cls 6).before args s' = true := h _ (by simp [Bundle.ownAtoms0])
  obtain ⟨vm₁, cX, kX, hfX, hkX, -, -, X₁, st1⟩ := Y.newCold hexec (own := own) (C := cls) (index := ik) (n := 6) hown' hk' hins hini'
    (g := F0 m pc ls rest) rfl (by rw [hb]; exact d0) (Nat.le_refl _) (Nat.le_refl _)
  generalize hT1 : (T.setVm vm₁).pushCell { cls := cX, slots := kX.instanceTypes.map defaultValue, vm := .none } = T1 at X₁ st1
  have hcat : (Value.ref T.heap.size).category = 1 := rfl
  have hcellA : T1.heap[T.heap.size]? = some (freshCell cX kX) := by rw [← hT1]; exact State.heap_pushCell_size _ _
  have d3' : decode c.code (pc + 3) = .ok (.dup, 1) := by rw [hb]; exact d3
  obtain ⟨U, hsteps, hrun, hend, hW, hsame, ce, hce, hO⟩ := X₁.ctorThrow0 hexec htr (own := own) (cls := cls) (names := names) (ic := ic) hown' hcls hnames h (fun x hx => nomatch hx) hfX hkX hcellA (by rw [hhp, hT]; exact Nat.le_refl _)
    (g := { method := m, pc := pc + 4, locals := ls, stack := .ref T.heap.size :: .ref T.heap.size :: rest, locked := none }) rfl hsize rfl rfl (rest := rest) rfl
    (by rw [hb]; exact d4) (by rw [hb]; exact d7) hout hRframes (by simp only [List.map_cons, List.sum_cons, hcat]; omega) hlocks
  obtain ⟨f1, f2⟩ := vx_frame hsame
  rw [hhp] at f1 f2
  have hWs : s.WarmedH U.vm := State.WarmedH.trans hW0 hW
  have hcl : s.vm.findClass cls = some ce.cls := by
    have h9 := hO.cls
    rw [hvm] at h9
    exact h9
  have hall : s.sameButNew ({ U with vm := s.vm } : State) locs mc ms := by
    subst hA
    obtain ⟨e1, e2⟩ := hsame
    rw [State.setFrames_setFrames] at e1
    have h2 : (T.setVm s.vm).sameButNew ({ U with vm := s.vm } : State) [] (0 + 1) (0 + 6) := ⟨e1, e2⟩
    have h3 := X.same.trans h2
    rw [List.append_nil] at h3
    exact h3.mono hc hs
  refine ⟨U, ?_, .threw T.heap.size, hrun, hend, Or.inr ⟨T.heap.size, rfl, cls, ce, locs, hx U hWs.alike f1 (fun q hq => f2 q hq (fun z hz => nomatch hz)), hce, hO.vm, hcl, hWs, hall, hf⟩⟩
  refine st1 _ ?_
  show Steps p.tables e below (T1.setTop { method := m, pc := pc + 3, locals := ls, stack := .ref T.heap.size :: rest, locked := none }) _
  jvm_step X₁.here [X₁.here.top, hexec, d3', Value.category]
  exact hsteps
/-- 'throw new E("text")': new; dup; ldc; invokespecial; athrow -/
theorem vx_throwS {cc : ByteArray} {pc : Nat} (hexec : p.tables.exec = Jvm.exec) (hb : c.code = cc) (hl : l.stackTraces = false) {own cls text : String} {names : List String} {ik is ic mc ms sa : Nat} {A : Nat → Prop}
    (hown : s.vm.findClass own = some m.cls) (hcls : Bundle.fit cls = true) (hnames : ∀ n ∈ names, Bundle.fit n = true)
    (hk : (Cond.classLink own ik cls).before args s = true) (hini : (Cond.initialized cls).before args s = true) (hstr : vk_R own is text sa s) (hat : ∀ w ∈ vx_atS own ic cls names, w.before args s = true)
    (hgood : ∀ w ∈ Cond.classLink own ik cls :: Cond.initialized cls :: vx_atS own ic cls names, vx_ot w = true)
    (hU : vx_Zq Bundle.tN "UNASSIGNED_STACK" Bundle.steD A s s.heap) (hN : vx_Zq Bundle.tN "SUPPRESSED_SENTINEL" Bundle.listD A s s.heap) (hS : va_S A s.heap H locs) (hsize : ls.size = c.maxLocals)
    (d0 : decode cc pc = .ok (.new ik, 3)) (d3 : decode cc (pc + 3) = .ok (.dup, 1)) (d4 : decode cc (pc + 4) = .ok (.ldc is, 2)) (d6 : decode cc (pc + 6) = .ok (.invokespecial ic, 3)) (d9 : decode cc (pc + 9) = .ok (.athrow, 1))
    (hout : ∀ x ∈ c.exceptionTable.toList, covers x (pc + 9) = false)
    (hRframes : names.length + 3 < R.frames) (hRlocals : (rest.map fun v => v.category).sum + (13 * (names.length + 1) + 43) ≤ R.locals) (hRcells : cells + 1 ≤ R.cells) (hRslots : slots + 6 ≤ R.slots) (hlocks : meth.locks = false)
    (hx : ∀ t : State, s.vm.Alike t.vm → H.size ≤ t.heap.size → (∀ q : Nat, q < H.size → t.heap[q]? = H[q]?) → XC cls s t)
    (hf : ∀ z ∈ locs, free z.base) (hc : cells + 1 ≤ mc) (hs : slots + 6 ≤ ms) :
    W p l e R s m args below meth c H locs cells slots (vx_MQ below Qc XC args s mc ms free) (F0 m pc ls rest) := by
  intro T hT X
  have htr : e.platform.stackTraces = false := (show e.platform.stackTraces = l.stackTraces by rw [X.admits.platform]).trans hl
  have Y := vx_rebase X (R' := { frames := R.frames, locals := R.locals, cells := 1, slots := 6 }) (Nat.le_refl _) (Nat.le_refl _) hRcells hRslots
  obtain ⟨s', hA⟩ : ∃ z, z = (T.setVm s.vm).setFrames (.invoking m args :: below) := ⟨_, rfl⟩
  rw [← hA] at Y
  have hvm : s'.vm = s.vm := by rw [hA]; rfl
  have hhp : s'.heap = H := by rw [hA]; exact hT
  have hW0 : s.WarmedH s'.vm := by rw [hvm]; exact State.WarmedH.refl s
  have hat' : ∀ w ∈ vx_atS own ic cls names, w.before args s' = true := fun w hw => vx_ot_at hW0 hvm.symm (hgood w (List.mem_cons_of_mem _ (List.mem_cons_of_mem _ hw))) (hat w hw)
  have hk' : (Cond.classLink own ik cls).before args s' = true := vx_ot_at hW0 hvm.symm (hgood _ List.mem_cons_self) hk
  have hini' : (Cond.initialized cls).before args s' = true := vx_ot_at hW0 hvm.symm (hgood _ (List.mem_cons_of_mem _ List.mem_cons_self)) hini
  have hU' : vx_Zq Bundle.tN "UNASSIGNED_STACK" Bundle.steD A s' s'.heap := by rw [hhp]; exact vx_Zq.moved hW0.alike (hU.kept hS.2.1)
  have hN' : vx_Zq Bundle.tN "SUPPRESSED_SENTINEL" Bundle.listD A s' s'.heap := by rw [hhp]; exact vx_Zq.moved hW0.alike (hN.kept hS.2.1)
  have h : ∀ w ∈ Bundle.ownAtoms own ic cls names, w.before args s' = true := vx_own hat' (vx_isRefq hU'.1) (vx_isRefq hN'.1) hU'.2.word hN'.2.word
  have hown' : s'.vm.findClass own = some m.cls := by rw [hvm]; exact hown
  have hins : (Cond.instantiable cls 6).before args s' = true := h _ (by simp [Bundle.ownAtoms])
  obtain ⟨vm₁, cX, kX, hfX, hkX, -, -, X₁, st1⟩ := Y.newCold hexec (own := own) (C := cls) (index := ik) (n := 6) hown' hk' hins hini'
    (g := F0 m pc ls rest) rfl (by rw [hb]; exact d0) (Nat.le_refl _) (Nat.le_refl _)
  generalize hT1 : (T.setVm vm₁).pushCell { cls := cX, slots := kX.instanceTypes.map defaultValue, vm := .none } = T1 at X₁ st1
  have hcat : (Value.ref T.heap.size).category = 1 := rfl
  have hcellA : T1.heap[T.heap.size]? = some (freshCell cX kX) := by rw [← hT1]; exact State.heap_pushCell_size _ _
  have d3' : decode c.code (pc + 3) = .ok (.dup, 1) := by rw [hb]; exact d3
  have d4' : decode c.code (pc + 4) = .ok (.ldc is, 2) := by rw [hb]; exact d4
  have hstr' : vk_R own is text sa s' := vk_R.warm hW0 hstr
  obtain ⟨U, hsteps, hrun, hend, hW, hsame, ce, hce, hO⟩ := X₁.ctorThrowS hexec htr (own := own) (cls := cls) (names := names) (ic := ic) hown' hcls hnames h (fun x hx => nomatch hx) hfX hkX hcellA (by rw [hhp, hT]; exact Nat.le_refl _) (msg := .ref sa) rfl
    (g := { method := m, pc := pc + 6, locals := ls, stack := .ref sa :: .ref T.heap.size :: .ref T.heap.size :: rest, locked := none }) rfl hsize rfl rfl (rest := rest) rfl
    (by rw [hb]; exact d6) (by rw [hb]; exact d9) hout hRframes (by simp only [List.map_cons, List.sum_cons, hcat]; omega) hlocks
  obtain ⟨f1, f2⟩ := vx_frame hsame
  rw [hhp] at f1 f2
  have hWs : s.WarmedH U.vm := State.WarmedH.trans hW0 hW
  have hcl : s.vm.findClass cls = some ce.cls := by
    have h9 := hO.cls
    rw [hvm] at h9
    exact h9
  have hall : s.sameButNew ({ U with vm := s.vm } : State) locs mc ms := by
    subst hA
    obtain ⟨e1, e2⟩ := hsame
    rw [State.setFrames_setFrames] at e1
    have h2 : (T.setVm s.vm).sameButNew ({ U with vm := s.vm } : State) [] (0 + 1) (0 + 6) := ⟨e1, e2⟩
    have h3 := X.same.trans h2
    rw [List.append_nil] at h3
    exact h3.mono hc hs
  refine ⟨U, ?_, .threw T.heap.size, hrun, hend, Or.inr ⟨T.heap.size, rfl, cls, ce, locs, hx U hWs.alike f1 (fun q hq => f2 q hq (fun z hz => nomatch hz)), hce, hO.vm, hcl, hWs, hall, hf⟩⟩
  refine st1 _ ?_
  show Steps p.tables e below (T1.setTop { method := m, pc := pc + 3, locals := ls, stack := .ref T.heap.size :: rest, locked := none }) _
  jvm_step X₁.here [X₁.here.top, hexec, d3', Value.category]
  exact X₁.ldcString hexec (own := own) (text := text) (index := is) (a := sa) hown' hstr'.1 hstr'.2
    (g := { method := m, pc := pc + 4, locals := ls, stack := .ref T.heap.size :: .ref T.heap.size :: rest, locked := none }) rfl d4' _ hsteps
/-- 'throw new E("text")', the text by a wide index -/
theorem vx_throwSW {cc : ByteArray} {pc : Nat} (hexec : p.tables.exec = Jvm.exec) (hb : c.code = cc) (hl : l.stackTraces = false) {own cls text : String} {names : List String} {ik is ic mc ms sa : Nat} {A : Nat → Prop}
    (hown : s.vm.findClass own = some m.cls) (hcls : Bundle.fit cls = true) (hnames : ∀ n ∈ names, Bundle.fit n = true)
    (hk : (Cond.classLink own ik cls).before args s = true) (hini : (Cond.initialized cls).before args s = true) (hstr : vk_R own is text sa s) (hat : ∀ w ∈ vx_atS own ic cls names, w.before args s = true)
    (hgood : ∀ w ∈ Cond.classLink own ik cls :: Cond.initialized cls :: vx_atS own ic cls names, vx_ot w = true)
    (hU : vx_Zq Bundle.tN "UNASSIGNED_STACK" Bundle.steD A s s.heap) (hN : vx_Zq Bundle.tN "SUPPRESSED_SENTINEL" Bundle.listD A s s.heap) (hS : va_S A s.heap H locs) (hsize : ls.size = c.maxLocals)
    (d0 : decode cc pc = .ok (.new ik, 3)) (d3 : decode cc (pc + 3) = .ok (.dup, 1)) (d4 : decode cc (pc + 4) = .ok (.ldc_w is, 3)) (d7 : decode cc (pc + 7) = .ok (.invokespecial ic, 3)) (d10 : decode cc (pc + 10) = .ok (.athrow, 1))
    (hout : ∀ x ∈ c.exceptionTable.toList, covers x (pc + 10) = false)
    (hRframes : names.length + 3 < R.frames) (hRlocals : (rest.map fun v => v.category).sum + (13 * (names.length + 1) + 43) ≤ R.locals) (hRcells : cells + 1 ≤ R.cells) (hRslots : slots + 6 ≤ R.slots) (hlocks : meth.locks = false)
    (hx : ∀ t : State, s.vm.Alike t.vm → H.size ≤ t.heap.size → (∀ q : Nat, q < H.size → t.heap[q]? = H[q]?) → XC cls s t)
    (hf : ∀ z ∈ locs, free z.base) (hc : cells + 1 ≤ mc) (hs : slots + 6 ≤ ms) :
    W p l e R s m args below meth c H locs cells slots (vx_MQ below Qc XC args s mc ms free) (F0 m pc ls rest) := by
  intro T hT X
  have htr : e.platform.stackTraces = false := (show e.platform.stackTraces = l.stackTraces by rw [X.admits.platform]).trans hl
  have Y := vx_rebase X (R' := { frames := R.frames, locals := R.locals, cells := 1, slots := 6 }) (Nat.le_refl _) (Nat.le_refl _) hRcells hRslots
  obtain ⟨s', hA⟩ : ∃ z, z = (T.setVm s.vm).setFrames (.invoking m args :: below) := ⟨_, rfl⟩
  rw [← hA] at Y
  have hvm : s'.vm = s.vm := by rw [hA]; rfl
  have hhp : s'.heap = H := by rw [hA]; exact hT
  have hW0 : s.WarmedH s'.vm := by rw [hvm]; exact State.WarmedH.refl s
  have hat' : ∀ w ∈ vx_atS own ic cls names, w.before args s' = true := fun w hw => vx_ot_at hW0 hvm.symm (hgood w (List.mem_cons_of_mem _ (List.mem_cons_of_mem _ hw))) (hat w hw)
  have hk' : (Cond.classLink own ik cls).before args s' = true := vx_ot_at hW0 hvm.symm (hgood _ List.mem_cons_self) hk
  have hini' : (Cond.initialized cls).before args s' = true := vx_ot_at hW0 hvm.symm (hgood _ (List.mem_cons_of_mem _ List.mem_cons_self)) hini
  have hU' : vx_Zq Bundle.tN "UNASSIGNED_STACK" Bundle.steD A s' s'.heap := by rw [hhp]; exact vx_Zq.moved hW0.alike (hU.kept hS.2.1)
  have hN' : vx_Zq Bundle.tN "SUPPRESSED_SENTINEL" Bundle.listD A s' s'.heap := by rw [hhp]; exact vx_Zq.moved hW0.alike (hN.kept hS.2.1)
  have h : ∀ w ∈ Bundle.ownAtoms own ic cls names, w.before args s' = true := vx_own hat' (vx_isRefq hU'.1) (vx_isRefq hN'.1) hU'.2.word hN'.2.word
  have hown' : s'.vm.findClass own = some m.cls := by rw [hvm]; exact hown
  have hins : (Cond.instantiable cls 6).before args s' = true := h _ (by simp [Bundle.ownAtoms])
  obtain ⟨vm₁, cX, kX, hfX, hkX, -, -, X₁, st1⟩ := Y.newCold hexec (own := own) (C := cls) (index := ik) (n := 6) hown' hk' hins hini'
    (g := F0 m pc ls rest) rfl (by rw [hb]; exact d0) (Nat.le_refl _) (Nat.le_refl _)
  generalize hT1 : (T.setVm vm₁).pushCell { cls := cX, slots := kX.instanceTypes.map defaultValue, vm := .none } = T1 at X₁ st1
  have hcat : (Value.ref T.heap.size).category = 1 := rfl
  have hcellA : T1.heap[T.heap.size]? = some (freshCell cX kX) := by rw [← hT1]; exact State.heap_pushCell_size _ _
  have d3' : decode c.code (pc + 3) = .ok (.dup, 1) := by rw [hb]; exact d3
  have d4' : decode c.code (pc + 4) = .ok (.ldc_w is, 3) := by rw [hb]; exact d4
  have hstr' : vk_R own is text sa s' := vk_R.warm hW0 hstr
  obtain ⟨U, hsteps, hrun, hend, hW, hsame, ce, hce, hO⟩ := X₁.ctorThrowS hexec htr (own := own) (cls := cls) (names := names) (ic := ic) hown' hcls hnames h (fun x hx => nomatch hx) hfX hkX hcellA (by rw [hhp, hT]; exact Nat.le_refl _) (msg := .ref sa) rfl
    (g := { method := m, pc := pc + 7, locals := ls, stack := .ref sa :: .ref T.heap.size :: .ref T.heap.size :: rest, locked := none }) rfl hsize rfl rfl (rest := rest) rfl
    (by rw [hb]; exact d7) (by rw [hb]; exact d10) hout hRframes (by simp only [List.map_cons, List.sum_cons, hcat]; omega) hlocks
  obtain ⟨f1, f2⟩ := vx_frame hsame
  rw [hhp] at f1 f2
  have hWs : s.WarmedH U.vm := State.WarmedH.trans hW0 hW
  have hcl : s.vm.findClass cls = some ce.cls := by
    have h9 := hO.cls
    rw [hvm] at h9
    exact h9
  have hall : s.sameButNew ({ U with vm := s.vm } : State) locs mc ms := by
    subst hA
    obtain ⟨e1, e2⟩ := hsame
    rw [State.setFrames_setFrames] at e1
    have h2 : (T.setVm s.vm).sameButNew ({ U with vm := s.vm } : State) [] (0 + 1) (0 + 6) := ⟨e1, e2⟩
    have h3 := X.same.trans h2
    rw [List.append_nil] at h3
    exact h3.mono hc hs
  refine ⟨U, ?_, .threw T.heap.size, hrun, hend, Or.inr ⟨T.heap.size, rfl, cls, ce, locs, hx U hWs.alike f1 (fun q hq => f2 q hq (fun z hz => nomatch hz)), hce, hO.vm, hcl, hWs, hall, hf⟩⟩
  refine st1 _ ?_
  show Steps p.tables e below (T1.setTop { method := m, pc := pc + 3, locals := ls, stack := .ref T.heap.size :: rest, locked := none }) _
  jvm_step X₁.here [X₁.here.top, hexec, d3', Value.category]
  exact X₁.ldcStringW hexec (own := own) (text := text) (index := is) (a := sa) hown' hstr'.1 hstr'.2
    (g := { method := m, pc := pc + 4, locals := ls, stack := .ref T.heap.size :: .ref T.heap.size :: rest, locked := none }) rfl d4' _ hsteps
end Ends
section Bodies
variable {l : Launch}
theorem vx_ofW {y : MethodName} {ws ws' : List Cond} {rm : Room} {Pc : Array Value → State → Prop} {Qc : Array Value → State → Outcome → State → Prop} {XC : String → State → State → Prop} {mc ms : Nat} {free : Addr → Prop} {cc : ByteArray} {maxL : Nat} {ret : Option FieldType}
    (hy : plainName y.cls = true) (hw : ws = Cond.code y cc maxL ret :: ws')
    (body : ∀ p e s m args below meth c s₁, BodyLoose p l y (headSpec ws rm) cc maxL ret e s m args below meth c s₁ → c.maxLocals = maxL → (∀ x ∈ c.exceptionTable.toList, False) → Pc args s →
      W p l e (headSpec ws rm).room s m args below meth c s.heap [] 0 0 (vx_MQ below Qc XC args s mc ms free) (entryFrame m args maxL)) : vx_Met l y ws rm Pc Qc XC mc ms free := by
  refine MetFree.of_bodyS (code := cc) (maxLocals := maxL) (ret := ret) hy ?_ ?_
  · intro args s m h hn
    obtain ⟨meth, c, h1, h2, h3, h4, h5, h6, -, -⟩ := Cond.code_spec hn (atoms_spec (ws := ws) h _ (by rw [hw]; exact List.mem_cons_self))
    exact ⟨meth, c, h1, h2, h3, h4, h5, h6⟩
  · intro p e s m args below meth c s₁ B hml hP _
    have hh0 : s₁.heap = s.heap := by rw [B.state]; rfl
    have ht : ∀ x ∈ c.exceptionTable.toList, False := by
      obtain ⟨meth9, c9, h1, h2, -, -, -, -, h7, -⟩ := Cond.code_spec B.named (atoms_spec (ws := ws) B.pre _ (by rw [hw]; exact List.mem_cons_self))
      cases Option.some.inj (h1.symm.trans B.method)
      cases Option.some.inj (h2.symm.trans (Stand.of_body B).code)
      intro x hx
      rw [Array.isEmpty_iff.mp h7] at hx
      cases hx
    obtain ⟨t, a1, o, b1, b2, b3⟩ := body p e s m args below meth c s₁ B hml ht hP s₁ hh0 (Stand.of_body B)
    exact ⟨t, o, a1, b1, b2, b3⟩
/-- the table of a body with handlers -/
theorem vx_table {p : Program} {x y : MethodName} {S : Spec} {cc bytes : ByteArray} {maxL maxL' : Nat} {ret ret' : Option FieldType} {e : Env} {s s₁ : State} {m : MethodId} {args : Array Value} {below : List Frame} {meth : Method} {c : Code} {hh : List (Nat × Nat × Nat × Nat)}
    (B : BodyLoose p l y S cc maxL ret e s m args below meth c s₁) (h : (Cond.codeWith y bytes maxL' ret' hh).before args s = true) : c.exceptionTable.toList = tableOf hh := by
  obtain ⟨m9, meth9, c9, hn9, h1, h2, -, -, h6, -⟩ := Cond.codeWith_spec h
  cases Option.some.inj (hn9.symm.trans B.named)
  cases Option.some.inj (h1.symm.trans B.method)
  cases Option.some.inj (h2.symm.trans (Stand.of_body B).code)
  rw [← h6, table_eq]
end Bodies
end VXA
/-! ===== END ===== -/
/-! ===== BEGIN a static call of a method with an exception table ===== -/
section VXS
variable {p : Program} {l : Launch} {e : Env} {R : Room} {s : State} {m : MethodId} {args : Array Value} {below : List Frame} {meth : Method} {c : Code} {T : State} {H : Heap} {locs : List Loc} {cells slots : Nat}
abbrev vx_CSW (R : Room) (s : State) (args : Array Value) (own : String) (index : Nat) (y : MethodName) (bytes : ByteArray) (maxL : Nat) (ret : Option FieldType) (hh : List (Nat × Nat × Nat × Nat)) (ws : List Cond) (rm : Room) (mc ms n : Nat) : Prop :=
  (rm.cells = mc ∧ rm.slots = ms ∧ rm.frames + 1 ≤ R.frames ∧ 8 + (maxL + 11) + rm.locals ≤ R.locals ∧ (∀ w ∈ ws, ∀ (a' : Array Value) (U : State), s.WarmedH U.vm → w.before a' U = true) ∧ Cond.codeWith y bytes maxL ret hh ∈ ws) ∧
  (Cond.codeWith y bytes maxL ret hh).before args s = true ∧ (Cond.initialized y.cls).before args s = true ∧ (y.cls ≠ "java/lang/invoke/MethodHandle" ∧ y.cls ≠ "java/lang/invoke/VarHandle") ∧
  (∀ sig, parseMethodDescriptor y.desc = some sig → n = sig.parameters.length) ∧ (Cond.methodLink own index y).before args s = true ∧ (Cond.static y).before args s = true
theorem vx_cwSW {own : String} {index maxL mc ms : Nat} {y : MethodName} {bytes : ByteArray} {ret : Option FieldType} {hh : List (Nat × Nat × Nat × Nat)} {Ts ws ws' : List Cond} {rm : Room} (n : Nat) (ht : ∀ w ∈ Ts, w.before args s = true) (hT : GoodIn Ts (va_wsS own index y ws)) (hw : ws = Cond.codeWith y bytes maxL ret hh :: ws') (hrc : rm.cells = mc) (hrs : rm.slots = ms)
    (hd : y.cls ≠ "java/lang/invoke/MethodHandle" ∧ y.cls ≠ "java/lang/invoke/VarHandle" ∧ (parseMethodDescriptor y.desc).map (fun d => d.parameters.length) = some n) (hR : rm.frames + 1 ≤ R.frames ∧ 8 + (maxL + 11) + rm.locals ≤ R.locals) :
    vx_CSW R s args own index y bytes maxL ret hh ws rm mc ms n := by
  have ok : ∀ w ∈ va_wsS own index y ws, w.before args s = true := fun w h => ht w (hT w h).1
  have hG : GoodIn Ts ws := fun w h => hT w (by unfold va_wsS; exact List.mem_append_right _ h)
  have hc : Cond.codeWith y bytes maxL ret hh ∈ ws := by rw [hw]; exact List.mem_cons_self
  refine ⟨⟨hrc, hrs, hR.1, hR.2, pay_in ht hG, hc⟩, ht _ (hG _ hc).1, ok _ (by simp [va_wsS]), ⟨hd.1, hd.2.1⟩, fun sig h => ?_, ok _ (by simp [va_wsS]), ok _ (by simp [va_wsS])⟩
  have h2 := hd.2.2
  rw [h] at h2
  exact (Option.some.inj h2).symm
theorem vx_callSW (X : Stand p l e R s m args below meth c T locs cells slots) (hexec : p.tables.exec = Jvm.exec) {own : String} {index : Nat} {y : MethodName} {bytes : ByteArray} {maxL : Nat} {ret : Option FieldType} {hh : List (Nat × Nat × Nat × Nat)}
    (hown : s.vm.findClass own = some m.cls) (hlink : (Cond.methodLink own index y).before args s = true) (hstat : (Cond.static y).before args s = true) (hinit : (Cond.initialized y.cls).before args s = true)
    (hcode : (Cond.codeWith y bytes maxL ret hh).before args s = true) (hy : y.cls ≠ "java/lang/invoke/MethodHandle" ∧ y.cls ≠ "java/lang/invoke/VarHandle")
    {W9 : Nat} {Pre : Pt → Array Value → Prop} {Post : Pt → Array Value → Option Value → Pt → Prop} (hK : Back l R p e below s args y 3 W9 Pre Post)
    {g : JFrame} (hg : g.method = m) (hsize : g.locals.size = c.maxLocals) {argsL rest : List Value} (hlen : ∀ sig, parseMethodDescriptor y.desc = some sig → argsL.length = sig.parameters.length)
    (hstack : g.stack = argsL.reverse ++ rest) (hW : 2 * g.monitorRoom + (rest.map fun v => v.category).sum ≤ W9) (hdg : decode c.code g.pc = .ok (.invokestatic index, 3))
    (hpre : ∀ vm₁, s.WarmedH vm₁ → Pre ⟨T.setVm vm₁, locs, cells, slots⟩ argsL.toArray) :
    ∃ (v : Option Value) (vm₁ : Vm) (B : Pt), s.WarmedH vm₁ ∧ Stand p l e R s m args below meth c B.U B.locs B.cells B.slots ∧ Post ⟨T.setVm vm₁, locs, cells, slots⟩ argsL.toArray v B ∧
      ∀ target, Steps p.tables e below (B.U.setTop { g with pc := g.pc + 3, stack := v.toList ++ rest }) target → Steps p.tables e below (T.setTop g) target := by
  obtain ⟨mk, methM, cM, hnamed, hmethM, -, -, -, -, -, -, hsigM⟩ := Cond.codeWith_spec hcode
  have hstatic : methM.isStatic = true := Cond.static_spec hnamed hmethM hstat
  obtain ⟨kP, hkP, -⟩ := className_of_methodNamed hnamed
  have hinitP : kP.init = .initialized := Cond.initialized_spec (findClass_of_methodNamed hnamed) hkP hinit
  obtain ⟨vm₁, X₁, hstep₁⟩ := X.invokestatic hexec hown hlink hnamed hmethM hstatic hkP hinitP hy (g := g) hg (argsL := argsL) (rest := rest) (hlen _ hsigM) hstack hdg
  obtain ⟨v, B, X', hpost, hsteps⟩ := hK m meth c ⟨T.setVm vm₁, locs, cells, slots⟩ { g with stack := rest } (.invokestatic index) mk argsL.toArray X₁ hg hsize hdg hW (X₁.named hnamed) (hpre vm₁ X₁.warmed)
  exact ⟨v, vm₁, B, X₁.warmed, X', hpost, fun target h => hstep₁ _ fun acts => by rw [doInvoke_state]; exact hsteps.trans h⟩
theorem vx_runSW {y : MethodName} {bytes cc : ByteArray} {maxL nL mc ms n index : Nat} {ret : Option FieldType} {hh : List (Nat × Nat × Nat × Nat)} {ws : List Cond} {rm : Room} {Pc : Array Value → State → Prop} {Qc : Array Value → State → Outcome → State → Prop} {free : Addr → Prop} {Ts : List Cond} {own : String} {As rest : List Value} {g : JFrame}
    (S : CallFix p m c cc nL s args Ts own) (hM : Met l y ws rm Pc Qc mc ms free) (cw : vx_CSW R s args own index y bytes maxL ret hh ws rm mc ms n) (hp : PreS s H Pc As)
    (hg : g.method = m) (hn : As.length = n) (hsize : g.locals.size = nL) (hstack : g.stack = As.reverse ++ rest) (hW : 2 * g.monitorRoom + (rest.map fun v => v.category).sum ≤ 8) (hdg : decode cc g.pc = .ok (.invokestatic index, 3)) (hf : cells + mc ≤ R.cells ∧ slots + ms ≤ R.slots) :
    va_Run p l e R s m args below meth c H locs cells slots mc ms g rest (Qc As.toArray) (free) := by
  obtain ⟨⟨hrc, hrs, hfr, hlo, hws, hcw⟩, hcode, hini, hy, hlen, hl, hstt⟩ := cw
  have hK : Back l R p e below s args y 3 8 (PreOf R mc ms Pc) (PostOf Qc mc ms free) := va_backW (hh := hh) (bytes := bytes) (maxL := maxL) (ret := ret) hM hp.1 hrc hrs hfr hlo hws hcw (fun a' U hW => word_at hW (Or.inl (by first | rfl | simp [Cond.onTables, Cond.keeps, Cond.steady])) hini)
  obtain ⟨hx, hb, hml, ho, -⟩ := S
  intro T hT X
  obtain ⟨v, vm₁, ⟨U', l2, c2, s2⟩, hW₁, X', ⟨g', mk, t, L, e1, e2, hq, h1, hL, h2, h3⟩, st⟩ := vx_callSW X hx (hh := hh) (bytes := bytes) (maxL := maxL) (ret := ret) ho hl hstt hini hcode hy hK hg (hsize.trans hml.symm) (argsL := As) (rest := rest) (fun sig h => hn.trans (hlen sig h)) hstack hW (by rw [hb]; exact hdg)
    (fun vm₁ hW₁ => ⟨hf.1, hf.2, hp.2 (T.setVm vm₁) hT hW₁⟩)
  dsimp only [Pt.U, Pt.locs, Pt.cells, Pt.slots] at X' e1 e2 h1 h2 h3 st
  subst h1; subst h2; subst h3
  exact ⟨v, (T.setVm vm₁).calling g' mk As.toArray, t, U', L, hT, X', hL, e1, e2, hq, st⟩
/-- not caught here, past rows that name other classes: it goes on to the caller -/
theorem vx_outP {p : Program} {l : Launch} {e : Env} {R : Room} {s : State} {m : MethodId} {args : Array Value} {below : List Frame} {meth : Method} {c : Code} {H : Heap} {locs : List Loc} {cells slots : Nat} {free : Addr → Prop} {ls : Array Slot} {rest : List Value} {Qc : Array Value → State → Outcome → State → Prop} {XC : String → State → State → Prop}
    {pc : Nat} {own E : String} {ce : Cell} {q : Addr} {mc ms : Nat} (hown : s.vm.findClass own = some m.cls) (hlocks : meth.locks = false)
    (hpass : ∀ z ∈ c.exceptionTable.toList, covers z pc = false ∨ (z.catchType ≠ 0 ∧ ∃ nm : String, (Cond.classLink own z.catchType nm).before args s = true ∧ va_Nc E nm s)) (hcell : H[q]? = some ce) (hv : ce.vm = .none) (hcl : s.vm.findClass E = some ce.cls)
    (hx : ∀ t : State, t.heap = H → s.vm.Alike t.vm → XC E s t) (hf : ∀ z ∈ locs, free z.base) (hc : cells ≤ mc) (hs : slots ≤ ms) :
    vx_W p l e R s m args below meth c H locs cells slots (vx_MQ below Qc XC args s mc ms free) (F0 m pc ls rest) q := by
  intro T hT X
  have hpl : e.platform.magicAccessors = ({} : Platform).magicAccessors := by rw [X.admits.platform]
  obtain ⟨vm', hW', X', st⟩ := X.outThrough hlocks q (g := F0 m pc ls rest) rfl rfl rfl (cell := ce) (by rw [hT]; exact hcell) (by rw [hv]; rfl)
    (by obtain ⟨k9, h9, -⟩ := Vm.findClass_spec hcl; exact ⟨k9, h9⟩) (fun z hz => by
      rcases hpass z hz with h | ⟨hz0, nm, hl1, hn1⟩
      · exact Or.inl h
      · obtain ⟨c6, hc6, hcl6⟩ := Cond.classLink_spec hown hl1 e.platform hpl
        obtain ⟨a8, b8, h1, h2, h3⟩ := hn1
        cases Option.some.inj (h1.symm.trans hcl)
        cases Option.some.inj (h2.symm.trans hc6)
        exact Or.inr ⟨hz0, _, hcl6, h3⟩)
  obtain ⟨g₀, hfr⟩ := X'.frames_eq
  have hcell9 : ((T.setVm vm').setFrames (.throwing q :: below)).heap[q]? = some ce := by
    show T.heap[q]? = some ce
    rw [hT]; exact hcell
  have hend : Ended ((T.setVm vm').setFrames (.throwing q :: below)) below (.threw q) := State.frames_setFrames _ (State.cur_lt_of_frames hfr)
  refine ⟨(T.setVm vm').setFrames (.throwing q :: below), ?_, .threw q, X'.here.running, hend, Or.inr ⟨q, rfl, E, ce, locs, hx _ hT (X'.ends _).1.alike, hcell9, hv, hcl, (X'.ends _).1, (X'.ends _).2.mono hc hs, hf⟩⟩
  rw [X.pushThrowing_eq]
  exact st
/-- a thing of a world lies in the heap -/
theorem vx_lt {D : va_G} {cl : List vw_C} {ws : va_W} {H1 : Heap} (h : va_P D cl ws H1) {k : Nat} {q : Nat × va_E} (hk : ws[k]? = some q) : q.1 < H1.size := (h k q hk).lt
end VXS
/-! ===== END ===== -/
/-! ===== BEGIN methods with a table of their own: called by a name, returning or throwing ===== -/
section VXH
/-! vx_backW, vx_callVX, vx_callSX, vx_callVW, vx_runVW, vx_runVX, vx_runSX, vx_ofWH follow the same proofs as their sisters above (Free/Laws.lean, Shelf42/LK1.lean); vx_outP calls Shelf42/NT130.lean (outThrough). -/
section
variable {l : Launch} {R : Room} {p : Program} {e : Env} {below : List Frame} {s : State} {sargs : Array Value} {y : MethodName} {len W9 : Nat}
theorem vx_backW {ws : List Cond} {rm : Room} {Pc : Array Value → State → Prop} {Qc : Array Value → State → Outcome → State → Prop} {XC : String → State → State → Prop} {mc ms : Nat} {free : Addr → Prop} {bytes : ByteArray} {maxL : Nat} {ret : Option FieldType} {hh : List (Nat × Nat × Nat × Nat)}
    (hM : vx_Met l y ws rm Pc Qc XC mc ms free) (hblind : FrameBlind Pc) (hrc : rm.cells = mc) (hrs : rm.slots = ms)
    (hframes : rm.frames + 1 ≤ R.frames) (hlocals : W9 + (maxL + 11) + rm.locals ≤ R.locals)
    (hws : ∀ w ∈ ws, ∀ a' U, s.WarmedH U.vm → w.before a' U = true) (hcode : Cond.codeWith y bytes maxL ret hh ∈ ws) (hinit : ∀ a' U, s.WarmedH U.vm → (Cond.initialized y.cls).before a' U = true) :
    vx_Back l R p e below s sargs y len W9 (PreOf R mc ms Pc) (PostOf Qc mc ms free) (vx_Post XC mc ms free) := by
  intro m meth c A g ig mk a X hg hsize hdg hW hn hp
  have h1 : (headSpec ws rm).pre.before a A.U = true := atoms_intro fun w hw => hws w hw _ _ X.warmed
  have h2 : (Cond.codeWith y bytes maxL ret hh).before a A.U = true := hws _ hcode _ _ X.warmed
  have h3 : (Cond.initialized y.cls).before a A.U = true := hinit _ _ X.warmed
  have h4 : A.cells + (headSpec ws rm).room.cells ≤ R.cells := by rw [show (headSpec ws rm).room.cells = mc from hrc]; exact hp.1
  have h5 : A.slots + (headSpec ws rm).room.slots ≤ R.slots := by rw [show (headSpec ws rm).room.slots = ms from hrs]; exact hp.2.1
  have hPc : Pc a (A.U.calling g mk a) := hblind _ _ _ _ hp.2.2
  obtain ⟨U, Ls, c0, s0⟩ := A
  dsimp only [Pt.U, Pt.locs, Pt.cells, Pt.slots] at h1 h2 h3 h4 h5 X hn hPc ⊢
  obtain ⟨m9, methY, cY, hn9, hmY, hcY, -, hlY, -⟩ := Cond.codeWith_spec h2
  cases Option.some.inj (hn9.symm.trans hn)
  obtain ⟨kY, hkY, -⟩ := className_of_methodNamed hn
  have hinitY : kY.init = .initialized := Cond.initialized_spec (findClass_of_methodNamed hn) hkY h3
  have h : At U g.method c below := by rw [hg]; exact X.here
  have hlocals9 : W9 + (maxL + 11) + (headSpec ws rm).room.locals ≤ R.locals := hlocals
  have happ : (headSpec ws rm).appliesLoose y e.platform (U.calling g mk a) = true :=
    Spec.appliesLoose_calling (g := g) h hdg hn hkY hinitY
      (X.room_calling (g := g) (R' := (headSpec ws rm).room) hsize hmY hcY hframes (by rw [hlY]; omega) h4 h5) h1
  obtain ⟨mid, hmid⟩ := h.above
  have hfr : (U.setTop g).frames = (.java g :: mid) ++ below := by rw [State.frames_setTop' g h.top, hmid]; rfl
  obtain ⟨o, s₂, hsteps, -, hend, hq⟩ := Steps.callFree hM p X.admits X.cas X.clock (acts := []) hfr happ hPc trivial
  have hq' : vx_Q Qc XC mc ms free a (U.calling g mk a) o s₂ := hq
  rw [State.frames_setTop' g h.top] at hend
  obtain ⟨g₀, hg0⟩ := Option.isSome_iff_exists.mp h.top
  obtain ⟨r, hr⟩ := State.topJava?_eq_some.mp hg0
  have hr' : (({ U with heap := s₂.heap, slotsUsed := s₂.slotsUsed } : State).setVm s₂.vm).frames = .java g₀ :: r := hr
  rcases hq' with ⟨hqc, L, hfe, hL⟩ | ⟨q, rfl, E, ce, L, hx, hce, hcv, hcl, hW₂, hsm, hL⟩
  · obtain ⟨⟨v, rfl⟩, hW₂, e2, q2, q3, q4, q5, q6⟩ := id hfe
    have e3 : s₂ = ({ (U.calling g mk a).setFrames s₂.frames with heap := s₂.heap, slotsUsed := s₂.slotsUsed } : State).setVm s₂.vm := by
      have : s₂ = ({ s₂ with vm := (U.calling g mk a).vm } : State).setVm s₂.vm := rfl
      rw [e2] at this
      exact this
    obtain ⟨c₂, i₂, len₂, hc₂, hd₂, hf₂⟩ := hend
    have hW' : U.WarmedH s₂.vm := hW₂
    have hcc : c₂ = c := by
      have h1 : s₂.code? g.method = U.code? g.method := by
        rw [State.code?_eq, State.code?_eq, hW'.alike.method?]
      exact Option.some.inj (hc₂.symm.trans (h1.trans h.code))
    subst hcc
    have hlen : len₂ = len := by rw [hdg] at hd₂; cases hd₂; rfl
    subst hlen
    have hs₂ : s₂ = (({ U with heap := s₂.heap, slotsUsed := s₂.slotsUsed } : State).setVm s₂.vm).setTop { g with pc := g.pc + len₂, stack := v.toList ++ g.stack } := by
      refine e3.trans ?_
      rw [hf₂, State.calling_eq h.top, State.setFrames_setFrames, State.setTop_of_frames _ hr', hr]
      rfl
    have hsame : U.sameButNew ({ U with heap := s₂.heap, slotsUsed := s₂.slotsUsed } : State) L mc ms := by
      refine ⟨?_, q2, q3, q4, q5, q6⟩
      obtain ⟨t, ht, -⟩ := State.frames_cons hr
      show ({ U with heap := s₂.heap, slotsUsed := s₂.slotsUsed } : State) = { U.setFrames U.frames with heap := s₂.heap, slotsUsed := s₂.slotsUsed }
      rw [State.setFrames_self ht]
    subst hg
    refine Or.inl ⟨v, ⟨(({ U with heap := s₂.heap, slotsUsed := s₂.slotsUsed } : State).setVm s₂.vm), Ls ++ L, c0 + mc, s0 + ms⟩,
      ⟨X.admits, X.cas, X.clock, X.frames, X.room, X.hears, X.method, X.code, (X.here.setHeapUsed s₂.heap s₂.slotsUsed).setVm hW'.alike, X.tail, State.WarmedH.trans X.warmed hW', X.limits, X.bytes, X.same.trans (hsame.setVm s.vm)⟩,
      ⟨g, mk, s₂, L, rfl, rfl, hqc, rfl, hL, rfl, rfl⟩, ?_⟩
    show Steps p.tables e below _ ((({ U with heap := s₂.heap, slotsUsed := s₂.slotsUsed } : State).setVm s₂.vm).setTop { g with pc := g.pc + len₂, stack := v.toList ++ g.stack })
    rw [← hs₂]
    exact hsteps
  · obtain ⟨e2, q2, q3, q4, q5, q6⟩ := id hsm
    have e3 : s₂ = ({ (U.calling g mk a).setFrames s₂.frames with heap := s₂.heap, slotsUsed := s₂.slotsUsed } : State).setVm s₂.vm := by
      have : s₂ = ({ s₂ with vm := (U.calling g mk a).vm } : State).setVm s₂.vm := rfl
      rw [e2] at this
      exact this
    have hf₂ : s₂.frames = .throwing q :: .java g :: U.frames.tail := hend
    have hW' : U.WarmedH s₂.vm := hW₂
    have hs₂ : s₂ = ((({ U with heap := s₂.heap, slotsUsed := s₂.slotsUsed } : State).setVm s₂.vm).setTop g).pushFrame (.throwing q) := by
      refine e3.trans ?_
      rw [hf₂, State.calling_eq h.top, State.setFrames_setFrames, State.pushFrame, State.frames_setTop _ hr', State.setTop_of_frames _ hr', State.setFrames_setFrames, hr]
      rfl
    have hsame : U.sameButNew ({ U with heap := s₂.heap, slotsUsed := s₂.slotsUsed } : State) L mc ms := by
      refine ⟨?_, q2, q3, q4, q5, q6⟩
      obtain ⟨t, ht, -⟩ := State.frames_cons hr
      show ({ U with heap := s₂.heap, slotsUsed := s₂.slotsUsed } : State) = { U.setFrames U.frames with heap := s₂.heap, slotsUsed := s₂.slotsUsed }
      rw [State.setFrames_self ht]
    subst hg
    refine Or.inr ⟨q, ⟨(({ U with heap := s₂.heap, slotsUsed := s₂.slotsUsed } : State).setVm s₂.vm), Ls ++ L, c0 + mc, s0 + ms⟩,
      ⟨X.admits, X.cas, X.clock, X.frames, X.room, X.hears, X.method, X.code, (X.here.setHeapUsed s₂.heap s₂.slotsUsed).setVm hW'.alike, X.tail, State.WarmedH.trans X.warmed hW', X.limits, X.bytes, X.same.trans (hsame.setVm s.vm)⟩,
      ⟨g, mk, s₂, L, E, ce, rfl, rfl, hx, hce, hcv, hcl, rfl, hL, rfl, rfl⟩, ?_⟩
    show Steps p.tables e below _ (((({ U with heap := s₂.heap, slotsUsed := s₂.slotsUsed } : State).setVm s₂.vm).setTop g).pushFrame (.throwing q))
    rw [← hs₂]
    exact hsteps
end
variable {p : Program} {l : Launch} {e : Env} {R : Room} {s : State} {m : MethodId} {args : Array Value} {below : List Frame} {meth : Method} {c : Code} {T : State} {H : Heap} {locs : List Loc} {cells slots : Nat}
theorem vx_callVX (X : Stand p l e R s m args below meth c T locs cells slots) (hexec : p.tables.exec = Jvm.exec) {own C : String} {index : Nat} {y : MethodName} {bytes : ByteArray} {maxL : Nat} {ret : Option FieldType} {hh : List (Nat × Nat × Nat × Nat)}
    (hown : s.vm.findClass own = some m.cls) (hlink : (Cond.methodLink own index y).before args s = true) (hinst : (Cond.instanceMethod y).before args s = true) (hsel : (Cond.selects C y y).before args s = true)
    (hcode : (Cond.codeWith y bytes maxL ret hh).before args s = true) (hy : y.cls ≠ "java/lang/invoke/MethodHandle" ∧ y.cls ≠ "java/lang/invoke/VarHandle")
    {W9 : Nat} {Pre : Pt → Array Value → Prop} {Post : Pt → Array Value → Option Value → Pt → Prop} {PostX : Pt → Array Value → Addr → Pt → Prop} (hK : vx_Back l R p e below s args y 3 W9 Pre Post PostX)
    {b : Addr} {cellB : Cell} (hcell : T.heap[b]? = some cellB) (hobj : cellB.vm.isStatics = false) (hcls : s.vm.findClass C = some cellB.cls)
    {g : JFrame} (hg : g.method = m) (hsize : g.locals.size = c.maxLocals) {argsL rest : List Value} (hlen : ∀ sig, parseMethodDescriptor y.desc = some sig → argsL.length = sig.parameters.length)
    (hstack : g.stack = argsL.reverse ++ .ref b :: rest) (hW : 2 * g.monitorRoom + (rest.map fun v => v.category).sum ≤ W9) (hdg : decode c.code g.pc = .ok (.invokevirtual index, 3))
    (hpre : ∀ vm₁, s.WarmedH vm₁ → Pre ⟨T.setVm vm₁, locs, cells, slots⟩ (Value.ref b :: argsL).toArray) :
    (∃ (v : Option Value) (vm₁ : Vm) (B : Pt), s.WarmedH vm₁ ∧ Stand p l e R s m args below meth c B.U B.locs B.cells B.slots ∧ Post ⟨T.setVm vm₁, locs, cells, slots⟩ (Value.ref b :: argsL).toArray v B ∧
      ∀ target, Steps p.tables e below (B.U.setTop { g with pc := g.pc + 3, stack := v.toList ++ rest }) target → Steps p.tables e below (T.setTop g) target) ∨
    (∃ (q : Addr) (vm₁ : Vm) (B : Pt), s.WarmedH vm₁ ∧ Stand p l e R s m args below meth c B.U B.locs B.cells B.slots ∧ PostX ⟨T.setVm vm₁, locs, cells, slots⟩ (Value.ref b :: argsL).toArray q B ∧
      Steps p.tables e below (T.setTop g) ((B.U.setTop { g with stack := rest }).pushFrame (.throwing q))) := by
  obtain ⟨mk, methM, hnamed, hmethM, hstM, habM⟩ := Cond.instanceMethod_spec hinst
  obtain ⟨m8, methM', cM, hn8, hmethM', -, -, -, -, -, -, hsigM⟩ := Cond.codeWith_spec hcode
  cases Option.some.inj (hn8.symm.trans hnamed)
  cases hmethM.symm.trans hmethM'
  obtain ⟨c2, r2, m2, q1, q2, q3, q4, kP, hkP, hkPi⟩ := Cond.selects_spec hsel
  cases hcls.symm.trans q1
  cases (State.methodFound?_of_named hnamed hy).symm.trans q2
  cases hnamed.symm.trans q3
  have hselP : selectMethod e.platform s.vm cellB.cls mk = .method mk := by rw [Launch.admits_selectMethod X.admits]; exact q4
  obtain ⟨vm₁, X₁, hstep₁⟩ := X.invokevirtual hexec hown hlink hnamed hmethM hstM hkP hkPi hy (a := b) (cell := cellB) hcell
    (fun z h => by rw [h] at hobj; cases hobj) hselP hmethM habM hkP hkPi (g := g) hg (argsL := argsL) (rest := rest) (hlen _ hsigM) hstack hdg
  rcases hK m meth c ⟨T.setVm vm₁, locs, cells, slots⟩ { g with stack := rest } (.invokevirtual index) mk (Value.ref b :: argsL).toArray X₁ hg hsize hdg hW (X₁.named hnamed) (hpre vm₁ X₁.warmed) with ⟨v, B, X', hpost, hsteps⟩ | ⟨q, B, X', hpost, hsteps⟩
  · exact Or.inl ⟨v, vm₁, B, X₁.warmed, X', hpost, fun target h => hstep₁ _ fun acts => by rw [doInvoke_state]; exact hsteps.trans h⟩
  · exact Or.inr ⟨q, vm₁, B, X₁.warmed, X', hpost, hstep₁ _ fun acts => by rw [doInvoke_state]; exact hsteps⟩
theorem vx_callSX (X : Stand p l e R s m args below meth c T locs cells slots) (hexec : p.tables.exec = Jvm.exec) {own : String} {index : Nat} {y : MethodName} {bytes : ByteArray} {maxL : Nat} {ret : Option FieldType} {hh : List (Nat × Nat × Nat × Nat)}
    (hown : s.vm.findClass own = some m.cls) (hlink : (Cond.methodLink own index y).before args s = true) (hstat : (Cond.static y).before args s = true) (hinit : (Cond.initialized y.cls).before args s = true)
    (hcode : (Cond.codeWith y bytes maxL ret hh).before args s = true) (hy : y.cls ≠ "java/lang/invoke/MethodHandle" ∧ y.cls ≠ "java/lang/invoke/VarHandle")
    {W9 : Nat} {Pre : Pt → Array Value → Prop} {Post : Pt → Array Value → Option Value → Pt → Prop} {PostX : Pt → Array Value → Addr → Pt → Prop} (hK : vx_Back l R p e below s args y 3 W9 Pre Post PostX)
    {g : JFrame} (hg : g.method = m) (hsize : g.locals.size = c.maxLocals) {argsL rest : List Value} (hlen : ∀ sig, parseMethodDescriptor y.desc = some sig → argsL.length = sig.parameters.length)
    (hstack : g.stack = argsL.reverse ++ rest) (hW : 2 * g.monitorRoom + (rest.map fun v => v.category).sum ≤ W9) (hdg : decode c.code g.pc = .ok (.invokestatic index, 3))
    (hpre : ∀ vm₁, s.WarmedH vm₁ → Pre ⟨T.setVm vm₁, locs, cells, slots⟩ argsL.toArray) :
    (∃ (v : Option Value) (vm₁ : Vm) (B : Pt), s.WarmedH vm₁ ∧ Stand p l e R s m args below meth c B.U B.locs B.cells B.slots ∧ Post ⟨T.setVm vm₁, locs, cells, slots⟩ argsL.toArray v B ∧
      ∀ target, Steps p.tables e below (B.U.setTop { g with pc := g.pc + 3, stack := v.toList ++ rest }) target → Steps p.tables e below (T.setTop g) target) ∨
    (∃ (q : Addr) (vm₁ : Vm) (B : Pt), s.WarmedH vm₁ ∧ Stand p l e R s m args below meth c B.U B.locs B.cells B.slots ∧ PostX ⟨T.setVm vm₁, locs, cells, slots⟩ argsL.toArray q B ∧
      Steps p.tables e below (T.setTop g) ((B.U.setTop { g with stack := rest }).pushFrame (.throwing q))) := by
  obtain ⟨mk, methM, cM, hnamed, hmethM, -, -, -, -, -, -, hsigM⟩ := Cond.codeWith_spec hcode
  have hstatic : methM.isStatic = true := Cond.static_spec hnamed hmethM hstat
  obtain ⟨kP, hkP, -⟩ := className_of_methodNamed hnamed
  have hinitP : kP.init = .initialized := Cond.initialized_spec (findClass_of_methodNamed hnamed) hkP hinit
  obtain ⟨vm₁, X₁, hstep₁⟩ := X.invokestatic hexec hown hlink hnamed hmethM hstatic hkP hinitP hy (g := g) hg (argsL := argsL) (rest := rest) (hlen _ hsigM) hstack hdg
  rcases hK m meth c ⟨T.setVm vm₁, locs, cells, slots⟩ { g with stack := rest } (.invokestatic index) mk argsL.toArray X₁ hg hsize hdg hW (X₁.named hnamed) (hpre vm₁ X₁.warmed) with ⟨v, B, X', hpost, hsteps⟩ | ⟨q, B, X', hpost, hsteps⟩
  · exact Or.inl ⟨v, vm₁, B, X₁.warmed, X', hpost, fun target h => hstep₁ _ fun acts => by rw [doInvoke_state]; exact hsteps.trans h⟩
  · exact Or.inr ⟨q, vm₁, B, X₁.warmed, X', hpost, hstep₁ _ fun acts => by rw [doInvoke_state]; exact hsteps⟩
theorem vx_callVW (X : Stand p l e R s m args below meth c T locs cells slots) (hexec : p.tables.exec = Jvm.exec) {own C : String} {index : Nat} {y : MethodName} {bytes : ByteArray} {maxL : Nat} {ret : Option FieldType} {hh : List (Nat × Nat × Nat × Nat)}
    (hown : s.vm.findClass own = some m.cls) (hlink : (Cond.methodLink own index y).before args s = true) (hinst : (Cond.instanceMethod y).before args s = true) (hsel : (Cond.selects C y y).before args s = true)
    (hcode : (Cond.codeWith y bytes maxL ret hh).before args s = true) (hy : y.cls ≠ "java/lang/invoke/MethodHandle" ∧ y.cls ≠ "java/lang/invoke/VarHandle")
    {W9 : Nat} {Pre : Pt → Array Value → Prop} {Post : Pt → Array Value → Option Value → Pt → Prop} (hK : Back l R p e below s args y 3 W9 Pre Post)
    {b : Addr} {cellB : Cell} (hcell : T.heap[b]? = some cellB) (hobj : cellB.vm.isStatics = false) (hcls : s.vm.findClass C = some cellB.cls)
    {g : JFrame} (hg : g.method = m) (hsize : g.locals.size = c.maxLocals) {argsL rest : List Value} (hlen : ∀ sig, parseMethodDescriptor y.desc = some sig → argsL.length = sig.parameters.length)
    (hstack : g.stack = argsL.reverse ++ .ref b :: rest) (hW : 2 * g.monitorRoom + (rest.map fun v => v.category).sum ≤ W9) (hdg : decode c.code g.pc = .ok (.invokevirtual index, 3))
    (hpre : ∀ vm₁, s.WarmedH vm₁ → Pre ⟨T.setVm vm₁, locs, cells, slots⟩ (Value.ref b :: argsL).toArray) :
    ∃ (v : Option Value) (vm₁ : Vm) (B : Pt), s.WarmedH vm₁ ∧ Stand p l e R s m args below meth c B.U B.locs B.cells B.slots ∧ Post ⟨T.setVm vm₁, locs, cells, slots⟩ (Value.ref b :: argsL).toArray v B ∧
      ∀ target, Steps p.tables e below (B.U.setTop { g with pc := g.pc + 3, stack := v.toList ++ rest }) target → Steps p.tables e below (T.setTop g) target := by
  obtain ⟨mk, methM, hnamed, hmethM, hstM, habM⟩ := Cond.instanceMethod_spec hinst
  obtain ⟨m8, methM', cM, hn8, hmethM', -, -, -, -, -, -, hsigM⟩ := Cond.codeWith_spec hcode
  cases Option.some.inj (hn8.symm.trans hnamed)
  cases hmethM.symm.trans hmethM'
  obtain ⟨c2, r2, m2, q1, q2, q3, q4, kP, hkP, hkPi⟩ := Cond.selects_spec hsel
  cases hcls.symm.trans q1
  cases (State.methodFound?_of_named hnamed hy).symm.trans q2
  cases hnamed.symm.trans q3
  have hselP : selectMethod e.platform s.vm cellB.cls mk = .method mk := by rw [Launch.admits_selectMethod X.admits]; exact q4
  obtain ⟨vm₁, X₁, hstep₁⟩ := X.invokevirtual hexec hown hlink hnamed hmethM hstM hkP hkPi hy (a := b) (cell := cellB) hcell
    (fun z h => by rw [h] at hobj; cases hobj) hselP hmethM habM hkP hkPi (g := g) hg (argsL := argsL) (rest := rest) (hlen _ hsigM) hstack hdg
  obtain ⟨v, B, X', hpost, hsteps⟩ := hK m meth c ⟨T.setVm vm₁, locs, cells, slots⟩ { g with stack := rest } (.invokevirtual index) mk (Value.ref b :: argsL).toArray X₁ hg hsize hdg hW (X₁.named hnamed) (hpre vm₁ X₁.warmed)
  exact ⟨v, vm₁, B, X₁.warmed, X', hpost, fun target h => hstep₁ _ fun acts => by rw [doInvoke_state]; exact hsteps.trans h⟩
abbrev vx_CVW (R : Room) (s : State) (args : Array Value) (own C : String) (index : Nat) (y : MethodName) (bytes : ByteArray) (maxL : Nat) (ret : Option FieldType) (hh : List (Nat × Nat × Nat × Nat)) (ws : List Cond) (rm : Room) (mc ms n : Nat) : Prop :=
  (rm.cells = mc ∧ rm.slots = ms ∧ rm.frames + 1 ≤ R.frames ∧ 8 + (maxL + 11) + rm.locals ≤ R.locals ∧ (∀ w ∈ ws, ∀ (a' : Array Value) (U : State), s.WarmedH U.vm → w.before a' U = true) ∧ Cond.codeWith y bytes maxL ret hh ∈ ws) ∧
  (Cond.codeWith y bytes maxL ret hh).before args s = true ∧ (Cond.initialized y.cls).before args s = true ∧ (y.cls ≠ "java/lang/invoke/MethodHandle" ∧ y.cls ≠ "java/lang/invoke/VarHandle") ∧
  (∀ sig, parseMethodDescriptor y.desc = some sig → n = sig.parameters.length) ∧ (Cond.methodLink own index y).before args s = true ∧ (Cond.instanceMethod y).before args s = true ∧ (Cond.selects C y y).before args s = true
theorem vx_cwVW {own C : String} {index maxL mc ms : Nat} {y : MethodName} {bytes : ByteArray} {ret : Option FieldType} {hh : List (Nat × Nat × Nat × Nat)} {Ts ws ws' : List Cond} {rm : Room} (n : Nat) (ht : ∀ w ∈ Ts, w.before args s = true) (hT : GoodIn Ts (wsV own index C y ws)) (hw : ws = Cond.codeWith y bytes maxL ret hh :: ws') (hrc : rm.cells = mc) (hrs : rm.slots = ms)
    (hd : y.cls = C ∧ y.cls ≠ "java/lang/invoke/MethodHandle" ∧ y.cls ≠ "java/lang/invoke/VarHandle" ∧ (parseMethodDescriptor y.desc).map (fun d => d.parameters.length) = some n) (hR : rm.frames + 1 ≤ R.frames ∧ 8 + (maxL + 11) + rm.locals ≤ R.locals) :
    vx_CVW R s args own C index y bytes maxL ret hh ws rm mc ms n := by
  obtain ⟨hC, hd⟩ := hd
  subst hC
  have ok : ∀ w ∈ wsV own index y.cls y ws, w.before args s = true := fun w h => ht w (hT w h).1
  have hG : GoodIn Ts ws := fun w h => hT w (by unfold wsV; exact List.mem_append_right _ h)
  have hc : Cond.codeWith y bytes maxL ret hh ∈ ws := by rw [hw]; exact List.mem_cons_self
  refine ⟨⟨hrc, hrs, hR.1, hR.2, pay_in ht hG, hc⟩, ht _ (hG _ hc).1, ok _ (by simp [wsV]), ⟨hd.1, hd.2.1⟩, fun sig h => ?_, ok _ (by simp [wsV]), ok _ (by simp [wsV]), ok _ (by simp [wsV])⟩
  have h2 := hd.2.2
  rw [h] at h2
  exact (Option.some.inj h2).symm
theorem vx_runVW {y : MethodName} {bytes cc : ByteArray} {maxL nL mc ms n index : Nat} {ret : Option FieldType} {hh : List (Nat × Nat × Nat × Nat)} {ws : List Cond} {rm : Room} {Pc : Array Value → State → Prop} {Qc : Array Value → State → Outcome → State → Prop} {free : Addr → Prop} {Ts : List Cond} {own C : String} {b : Addr} {As rest : List Value} {g : JFrame}
    (S : CallFix p m c cc nL s args Ts own) (hM : Met l y ws rm Pc Qc mc ms free) (cw : vx_CVW R s args own C index y bytes maxL ret hh ws rm mc ms n) (hp : PreV s H C b Pc As)
    (hg : g.method = m) (hn : As.length = n) (hsize : g.locals.size = nL) (hstack : g.stack = As.reverse ++ .ref b :: rest) (hW : 2 * g.monitorRoom + (rest.map fun v => v.category).sum ≤ 8) (hdg : decode cc g.pc = .ok (.invokevirtual index, 3)) (hf : cells + mc ≤ R.cells ∧ slots + ms ≤ R.slots) :
    va_Run p l e R s m args below meth c H locs cells slots mc ms g rest (Qc (Value.ref b :: As).toArray) free := by
  obtain ⟨⟨hrc, hrs, hfr, hlo, hws, hcw⟩, hcode, hini, hy, hlen, hl, hin, hse⟩ := cw
  have hK : Back l R p e below s args y 3 8 (PreOf R mc ms Pc) (PostOf Qc mc ms free) := va_backW (hh := hh) (bytes := bytes) (maxL := maxL) (ret := ret) hM hp.1 hrc hrs hfr hlo hws hcw (fun a' U hW => word_at hW (Or.inl (by first | rfl | simp [Cond.onTables, Cond.keeps, Cond.steady])) hini)
  obtain ⟨hx, hb, hml, ho, -⟩ := S
  obtain ⟨-, ⟨cellB, hcB, hoB, hclB⟩, hPc⟩ := hp
  intro T hT X
  obtain ⟨v, vm₁, ⟨U', l2, c2, s2⟩, hW₁, X', ⟨g', mk, t, L, e1, e2, hq, h1, hL, h2, h3⟩, st⟩ := vx_callVW X hx (C := C) (hh := hh) (bytes := bytes) (maxL := maxL) (ret := ret) ho hl hin hse hcode hy hK (by rw [hT]; exact hcB) hoB hclB hg (hsize.trans hml.symm) (argsL := As) (rest := rest) (fun sig h => hn.trans (hlen sig h)) hstack hW (by rw [hb]; exact hdg)
    (fun vm₁ hW₁ => ⟨hf.1, hf.2, hPc (T.setVm vm₁) hT hW₁⟩)
  dsimp only [Pt.U, Pt.locs, Pt.cells, Pt.slots] at X' e1 e2 h1 h2 h3 st
  subst h1; subst h2; subst h3
  exact ⟨v, (T.setVm vm₁).calling g' mk (Value.ref b :: As).toArray, t, U', L, hT, X', hL, e1, e2, hq, st⟩
section
variable {y : MethodName} {bytes cc : ByteArray} {maxL nL mc ms n index : Nat} {ret : Option FieldType} {ws : List Cond} {rm : Room} {Pc : Array Value → State → Prop} {Qc : Array Value → State → Outcome → State → Prop} {XC : String → State → State → Prop} {free : Addr → Prop} {Ts : List Cond} {own C : String} {b : Addr} {As rest : List Value} {g : JFrame}
theorem vx_runVX {hh : List (Nat × Nat × Nat × Nat)} (S : CallFix p m c cc nL s args Ts own) (hM : vx_Met l y ws rm Pc Qc XC mc ms free) (cw : vx_CVW R s args own C index y bytes maxL ret hh ws rm mc ms n) (hp : PreV s H C b Pc As)
    (hg : g.method = m) (hn : As.length = n) (hsize : g.locals.size = nL) (hstack : g.stack = As.reverse ++ .ref b :: rest) (hW : 2 * g.monitorRoom + (rest.map fun v => v.category).sum ≤ 8) (hdg : decode cc g.pc = .ok (.invokevirtual index, 3)) (hf : cells + mc ≤ R.cells ∧ slots + ms ≤ R.slots) :
    vx_Run p l e R s m args below meth c H locs cells slots mc ms g rest (Qc (Value.ref b :: As).toArray) XC free := by
  obtain ⟨⟨hrc, hrs, hfr, hlo, hws, hcw⟩, hcode, hini, hy, hlen, hl, hin, hse⟩ := cw
  have hK : vx_Back l R p e below s args y 3 8 (PreOf R mc ms Pc) (PostOf Qc mc ms free) (vx_Post XC mc ms free) := vx_backW (hh := hh) (bytes := bytes) (maxL := maxL) (ret := ret) hM hp.1 hrc hrs hfr hlo hws hcw (fun a' U hW => word_at hW (Or.inl (by first | rfl | simp [Cond.onTables, Cond.keeps, Cond.steady])) hini)
  obtain ⟨hx, hb, hml, ho, -⟩ := S
  obtain ⟨-, ⟨cellB, hcB, hoB, hclB⟩, hPc⟩ := hp
  intro T hT X
  rcases vx_callVX X hx (C := C) (hh := hh) (bytes := bytes) (maxL := maxL) (ret := ret) ho hl hin hse hcode hy hK (by rw [hT]; exact hcB) hoB hclB hg (hsize.trans hml.symm) (argsL := As) (rest := rest) (fun sig h => hn.trans (hlen sig h)) hstack hW (by rw [hb]; exact hdg)
    (fun vm₁ hW₁ => ⟨hf.1, hf.2, hPc (T.setVm vm₁) hT hW₁⟩) with ⟨v, vm₁, ⟨U', l2, c2, s2⟩, hW₁, X', ⟨g', mk, t, L, e1, e2, hq, h1, hL, h2, h3⟩, st⟩ | ⟨q, vm₁, ⟨U', l2, c2, s2⟩, hW₁, X', ⟨g', mk, t, L, E, ce, e1, e2, hq, hce, hcv, hcl, h1, hL, h2, h3⟩, st⟩
  · dsimp only [Pt.U, Pt.locs, Pt.cells, Pt.slots] at X' e1 e2 h1 h2 h3 st
    subst h1; subst h2; subst h3
    exact Or.inl ⟨v, (T.setVm vm₁).calling g' mk (Value.ref b :: As).toArray, t, U', L, hT, X', hL, e1, e2, hq, st⟩
  · dsimp only [Pt.U, Pt.locs, Pt.cells, Pt.slots] at X' e1 e2 h1 h2 h3 st hcl
    subst h1; subst h2; subst h3
    exact Or.inr ⟨q, (T.setVm vm₁).calling g' mk (Value.ref b :: As).toArray, t, U', L, E, ce, hT, X', hL, e1, e2, hq, hce, hcv, vx_cls hW₁ hcl, st⟩
theorem vx_runSX {hh : List (Nat × Nat × Nat × Nat)} (S : CallFix p m c cc nL s args Ts own) (hM : vx_Met l y ws rm Pc Qc XC mc ms free) (cw : vx_CSW R s args own index y bytes maxL ret hh ws rm mc ms n) (hp : PreS s H Pc As)
    (hg : g.method = m) (hn : As.length = n) (hsize : g.locals.size = nL) (hstack : g.stack = As.reverse ++ rest) (hW : 2 * g.monitorRoom + (rest.map fun v => v.category).sum ≤ 8) (hdg : decode cc g.pc = .ok (.invokestatic index, 3)) (hf : cells + mc ≤ R.cells ∧ slots + ms ≤ R.slots) :
    vx_Run p l e R s m args below meth c H locs cells slots mc ms g rest (Qc As.toArray) XC free := by
  obtain ⟨⟨hrc, hrs, hfr, hlo, hws, hcw⟩, hcode, hini, hy, hlen, hl, hstt⟩ := cw
  have hK : vx_Back l R p e below s args y 3 8 (PreOf R mc ms Pc) (PostOf Qc mc ms free) (vx_Post XC mc ms free) := vx_backW (hh := hh) (bytes := bytes) (maxL := maxL) (ret := ret) hM hp.1 hrc hrs hfr hlo hws hcw (fun a' U hW => word_at hW (Or.inl (by first | rfl | simp [Cond.onTables, Cond.keeps, Cond.steady])) hini)
  obtain ⟨hx, hb, hml, ho, -⟩ := S
  intro T hT X
  rcases vx_callSX X hx (hh := hh) (bytes := bytes) (maxL := maxL) (ret := ret) ho hl hstt hini hcode hy hK hg (hsize.trans hml.symm) (argsL := As) (rest := rest) (fun sig h => hn.trans (hlen sig h)) hstack hW (by rw [hb]; exact hdg)
    (fun vm₁ hW₁ => ⟨hf.1, hf.2, hp.2 (T.setVm vm₁) hT hW₁⟩) with ⟨v, vm₁, ⟨U', l2, c2, s2⟩, hW₁, X', ⟨g', mk, t, L, e1, e2, hq, h1, hL, h2, h3⟩, st⟩ | ⟨q, vm₁, ⟨U', l2, c2, s2⟩, hW₁, X', ⟨g', mk, t, L, E, ce, e1, e2, hq, hce, hcv, hcl, h1, hL, h2, h3⟩, st⟩
  · dsimp only [Pt.U, Pt.locs, Pt.cells, Pt.slots] at X' e1 e2 h1 h2 h3 st
    subst h1; subst h2; subst h3
    exact Or.inl ⟨v, (T.setVm vm₁).calling g' mk As.toArray, t, U', L, hT, X', hL, e1, e2, hq, st⟩
  · dsimp only [Pt.U, Pt.locs, Pt.cells, Pt.slots] at X' e1 e2 h1 h2 h3 st hcl
    subst h1; subst h2; subst h3
    exact Or.inr ⟨q, (T.setVm vm₁).calling g' mk As.toArray, t, U', L, E, ce, hT, X', hL, e1, e2, hq, hce, hcv, vx_cls hW₁ hcl, st⟩
end
end VXH
theorem vx_ofWH {l : Launch} {y : MethodName} {ws ws' : List Cond} {rm : Room} {Pc : Array Value → State → Prop} {Qc : Array Value → State → Outcome → State → Prop} {XC : String → State → State → Prop} {mc ms : Nat} {free : Addr → Prop} {cc : ByteArray} {maxL : Nat} {ret : Option FieldType} {hh : List (Nat × Nat × Nat × Nat)}
    (hy : plainName y.cls = true) (hw : ws = Cond.codeWith y cc maxL ret hh :: ws')
    (body : ∀ p e s m args below meth c s₁, BodyLoose p l y (headSpec ws rm) cc maxL ret e s m args below meth c s₁ → c.maxLocals = maxL → Pc args s →
      W p l e (headSpec ws rm).room s m args below meth c s.heap [] 0 0 (vx_MQ below Qc XC args s mc ms free) (entryFrame m args maxL)) : vx_Met l y ws rm Pc Qc XC mc ms free := by
  refine MetFree.of_bodyS (code := cc) (maxLocals := maxL) (ret := ret) hy ?_ ?_
  · intro args s m h hn
    obtain ⟨m9, meth, c, hn9, h1, h2, h3, h4, -, h5, h6, -⟩ := Cond.codeWith_spec (atoms_spec (ws := ws) h _ (by rw [hw]; exact List.mem_cons_self))
    cases hn.symm.trans hn9
    exact ⟨meth, c, h1, h2, h3, h4, h5, h6⟩
  · intro p e s m args below meth c s₁ B hml hP _
    have hh0 : s₁.heap = s.heap := by rw [B.state]; rfl
    obtain ⟨t, a1, o, b1, b2, b3⟩ := body p e s m args below meth c s₁ B hml hP s₁ hh0 (Stand.of_body B)
    exact ⟨t, o, a1, b1, b2, b3⟩
/-! ===== END ===== -/
end
section
/-- the good words of the tables: every method of the claim has them all -/
def gBIG : List Cond := lw_tbl.filter goodWord
theorem gBIG_in : ∀ w ∈ gBIG, w ∈ lw_tbl := fun w h => (List.mem_filter.mp h).1
theorem mt1 {w : Cond} (i : Nat) (h : tables_1_1[i]? = some w) (g : goodWord w = true) : w ∈ gBIG := List.mem_filter.mpr ⟨List.mem_append_right _ (List.mem_append_left _ (List.mem_of_getElem? h)), g⟩
theorem mt2 {w : Cond} (i : Nat) (h : tables_1_2[i]? = some w) (g : goodWord w = true) : w ∈ gBIG := List.mem_filter.mpr ⟨List.mem_append_right _ (List.mem_append_right _ (List.mem_append_left _ (List.mem_of_getElem? h))), g⟩
theorem mt3 {w : Cond} (i : Nat) (h : tables_1_3[i]? = some w) (g : goodWord w = true) : w ∈ gBIG := List.mem_filter.mpr ⟨List.mem_append_right _ (List.mem_append_right _ (List.mem_append_right _ (List.mem_of_getElem? h))), g⟩
theorem ms {w : Cond} (i : Nat) (h : (k2_sels lw_privs)[i]? = some w) (g : goodWord w = true) : w ∈ gBIG := List.mem_filter.mpr ⟨List.mem_append_left _ (List.mem_of_getElem? h), g⟩
theorem gGood (w : Cond) (h : w ∈ gBIG) : w ∈ gBIG ∧ ((w.onTables && w.keeps) = true ∨ ∃ ty, w = .arrayClass ty) := ⟨h, good_of_word (List.mem_filter.mp h).2⟩
theorem gGoodL (w : Cond) (h : w ∈ gBIG) : w ∈ lw_tbl ∧ ((w.onTables && w.keeps) = true ∨ ∃ ty, w = .arrayClass ty) := ⟨gBIG_in w h, good_of_word (List.mem_filter.mp h).2⟩
theorem gAll {ws : List Cond} (h : ∀ w ∈ ws, w ∈ gBIG) : GoodIn gBIG ws := fun w hw => gGood w (h w hw)
theorem gCons {w : Cond} {ws : List Cond} (h : w ∈ gBIG) (t : ∀ w ∈ ws, w ∈ gBIG) : ∀ w' ∈ w :: ws, w' ∈ gBIG := fun w' h' => (List.mem_cons.mp h').elim (fun e => by rw [e]; exact h) (t w')
theorem gSelf : ∀ w ∈ gBIG, w ∈ gBIG := fun _ h => h
theorem gV {own C : String} {idx : Nat} {y : MethodName} {w : Cond} (h1 : Cond.methodLink own idx y ∈ gBIG) (h2 : Cond.instanceMethod y ∈ gBIG) (h3 : Cond.selects C y y ∈ gBIG) (h4 : Cond.initialized C ∈ gBIG) (h5 : w ∈ gBIG) : GoodIn gBIG (wsV own idx C y (w :: gBIG)) := gAll (gCons h1 (gCons h2 (gCons h3 (gCons h4 (gCons h5 gSelf)))))
theorem gS {own : String} {idx : Nat} {y : MethodName} {w : Cond} (h1 : Cond.methodLink own idx y ∈ gBIG) (h2 : Cond.static y ∈ gBIG) (h3 : Cond.initialized own ∈ gBIG) (h5 : w ∈ gBIG) : GoodIn gBIG (wsS own idx y (w :: gBIG)) := gAll (gCons h1 (gCons h2 (gCons h3 (gCons h5 gSelf))))
def TX0 : u_T := fun k => match k with
  | 0 => ("PagedHart", "memory", "[I", true)
  | 1 => ("PagedHart", "registers", "[I", true)
  | 2 => ("PagedHart", "controls", "[I", true)
  | 3 => ("PagedHart", "pc", "I", false)
  | 4 => ("PagedHart", "mode", "I", false)
  | _ => ("PagedHart", "endedByCall", "Z", false)
def tyX0 : Nat → FieldType := fun k => match k with
  | 0 => .array .int
  | 1 => .array .int
  | 2 => .array .int
  | 3 => .int
  | 4 => .int
  | _ => .boolean
theorem nmX0 : ∀ a, a < 6 → ∀ b, b < 6 → a ≠ b → (TX0 a).2.1 ≠ (TX0 b).2.1 := by decide +kernel
theorem tyX0_ok : ∀ k, k < 6 → parseFieldDescriptor (TX0 k).2.2.1 = some (tyX0 k) := by decide +kernel
theorem mUl0 : ∀ w ∈ u_ws "PagedHart" TX0 6, w ∈ lw_tbl ∧ goodWord w = true := by decide +kernel
theorem mU0 : ∀ w ∈ u_ws "PagedHart" TX0 6, w ∈ gBIG := fun w h => List.mem_filter.mpr (mUl0 w h)
def TX1 : u_T := fun k => match k with
  | 0 => ("PagedHartModel", "thrown", "I", false)
  | 1 => ("PagedHartModel", "memory", "[I", true)
  | 2 => ("PagedHartModel", "registers", "[I", true)
  | 3 => ("PagedHartModel", "pc", "I", false)
  | 4 => ("PagedHartModel", "mode", "I", false)
  | 5 => ("PagedHartModel", "status", "I", false)
  | 6 => ("PagedHartModel", "vector", "I", false)
  | 7 => ("PagedHartModel", "scratch", "I", false)
  | 8 => ("PagedHartModel", "back", "I", false)
  | 9 => ("PagedHartModel", "cause", "I", false)
  | 10 => ("PagedHartModel", "value", "I", false)
  | 11 => ("PagedHartModel", "tables", "I", false)
  | 12 => ("PagedHartModel", "turn", "I", false)
  | 13 => ("PagedHartModel", "work", "I", false)
  | 14 => ("PagedHartModel", "ended", "Z", false)
  | 15 => ("PagedHartModel", "trapped", "Z", false)
  | 16 => ("PagedHartModel", "next", "I", false)
  | _ => ("PagedHartModel", "fault", "I", false)
def tyX1 : Nat → FieldType := fun k => match k with
  | 0 => .int
  | 1 => .array .int
  | 2 => .array .int
  | 3 => .int
  | 4 => .int
  | 5 => .int
  | 6 => .int
  | 7 => .int
  | 8 => .int
  | 9 => .int
  | 10 => .int
  | 11 => .int
  | 12 => .int
  | 13 => .int
  | 14 => .boolean
  | 15 => .boolean
  | 16 => .int
  | _ => .int
theorem nmX1 : ∀ a, a < 18 → ∀ b, b < 18 → a ≠ b → (TX1 a).2.1 ≠ (TX1 b).2.1 := by decide +kernel
theorem tyX1_ok : ∀ k, k < 18 → parseFieldDescriptor (TX1 k).2.2.1 = some (tyX1 k) := by decide +kernel
theorem mUl1 : ∀ w ∈ u_ws "PagedHartModel" TX1 18, w ∈ lw_tbl ∧ goodWord w = true := by decide +kernel
theorem mU1 : ∀ w ∈ u_ws "PagedHartModel" TX1 18, w ∈ gBIG := fun w h => List.mem_filter.mpr (mUl1 w h)
abbrev vwCl : List vw_C := [("PagedHart", TX0, 6), ("PagedHartModel", TX1, 18)]
abbrev yX0_init : MethodName := ⟨"PagedHart", "<init>", "()V"⟩
abbrev cX0_init : ByteArray := prog_1_method_1_code
abbrev yX0_run : MethodName := ⟨"PagedHart", "run", "(I)I"⟩
abbrev cX0_run : ByteArray := prog_1_method_2_code
abbrev yX0_called : MethodName := ⟨"PagedHart", "called", "()Z"⟩
abbrev cX0_called : ByteArray := prog_1_method_3_code
abbrev yX0_peek : MethodName := ⟨"PagedHart", "peek", "(I)I"⟩
abbrev cX0_peek : ByteArray := prog_1_method_4_code
abbrev yX0_poke : MethodName := ⟨"PagedHart", "poke", "(II)V"⟩
abbrev cX0_poke : ByteArray := prog_1_method_5_code
abbrev yX0_pokeFour : MethodName := ⟨"PagedHart", "pokeFour", "(IIIII)V"⟩
abbrev cX0_pokeFour : ByteArray := prog_1_method_6_code
abbrev yX0_register : MethodName := ⟨"PagedHart", "register", "(I)I"⟩
abbrev cX0_register : ByteArray := prog_1_method_7_code
abbrev yX0_setRegister : MethodName := ⟨"PagedHart", "setRegister", "(II)V"⟩
abbrev cX0_setRegister : ByteArray := prog_1_method_8_code
abbrev yX0_control : MethodName := ⟨"PagedHart", "control", "(I)I"⟩
abbrev cX0_control : ByteArray := prog_1_method_9_code
abbrev yX0_setControl : MethodName := ⟨"PagedHart", "setControl", "(II)V"⟩
abbrev cX0_setControl : ByteArray := prog_1_method_10_code
abbrev yX0_translate : MethodName := ⟨"PagedHart", "translate", "(II)I"⟩
abbrev cX0_translate : ByteArray := prog_1_method_11_code
abbrev yX0_isInMemory : MethodName := ⟨"PagedHart", "isInMemory", "(I)Z"⟩
abbrev cX0_isInMemory : ByteArray := prog_1_method_12_code
abbrev yX0_isWord : MethodName := ⟨"PagedHart", "isWord", "(I)Z"⟩
abbrev cX0_isWord : ByteArray := prog_1_method_13_code
abbrev yX0_locateAligned : MethodName := ⟨"PagedHart", "locateAligned", "(III)I"⟩
abbrev cX0_locateAligned : ByteArray := prog_1_method_14_code
abbrev yX0_locate : MethodName := ⟨"PagedHart", "locate", "(II)I"⟩
abbrev cX0_locate : ByteArray := prog_1_method_15_code
abbrev yX0_frameOf : MethodName := ⟨"PagedHart", "frameOf", "(I)I"⟩
abbrev cX0_frameOf : ByteArray := prog_1_method_16_code
abbrev yX0_permits : MethodName := ⟨"PagedHart", "permits", "(II)Z"⟩
abbrev cX0_permits : ByteArray := prog_1_method_17_code
abbrev yX0_misalignedCause : MethodName := ⟨"PagedHart", "misalignedCause", "(I)I"⟩
abbrev cX0_misalignedCause : ByteArray := prog_1_method_18_code
abbrev yX0_accessCause : MethodName := ⟨"PagedHart", "accessCause", "(I)I"⟩
abbrev cX0_accessCause : ByteArray := prog_1_method_19_code
abbrev yX0_pageCause : MethodName := ⟨"PagedHart", "pageCause", "(I)I"⟩
abbrev cX0_pageCause : ByteArray := prog_1_method_20_code
abbrev yX0_slotOf : MethodName := ⟨"PagedHart", "slotOf", "(I)I"⟩
abbrev cX0_slotOf : ByteArray := prog_1_method_21_code
abbrev yX0_step : MethodName := ⟨"PagedHart", "step", "()V"⟩
abbrev cX0_step : ByteArray := prog_1_method_22_code
abbrev yX0_countDown : MethodName := ⟨"PagedHart", "countDown", "(I)V"⟩
abbrev cX0_countDown : ByteArray := prog_1_method_23_code
abbrev yX0_trap : MethodName := ⟨"PagedHart", "trap", "(II)Z"⟩
abbrev cX0_trap : ByteArray := prog_1_method_24_code
abbrev yX0_refuse : MethodName := ⟨"PagedHart", "refuse", "(I)Z"⟩
abbrev cX0_refuse : ByteArray := prog_1_method_25_code
abbrev yX0_goOn : MethodName := ⟨"PagedHart", "goOn", "()Z"⟩
abbrev cX0_goOn : ByteArray := prog_1_method_26_code
abbrev yX0_goOnWith : MethodName := ⟨"PagedHart", "goOnWith", "(II)Z"⟩
abbrev cX0_goOnWith : ByteArray := prog_1_method_27_code
abbrev yX0_writeD : MethodName := ⟨"PagedHart", "writeD", "(II)V"⟩
abbrev cX0_writeD : ByteArray := prog_1_method_28_code
abbrev yX0_fOf : MethodName := ⟨"PagedHart", "fOf", "(I)I"⟩
abbrev cX0_fOf : ByteArray := prog_1_method_29_code
abbrev yX0_gOf : MethodName := ⟨"PagedHart", "gOf", "(I)I"⟩
abbrev cX0_gOf : ByteArray := prog_1_method_30_code
abbrev yX0_aOf : MethodName := ⟨"PagedHart", "aOf", "(I)I"⟩
abbrev cX0_aOf : ByteArray := prog_1_method_31_code
abbrev yX0_bOf : MethodName := ⟨"PagedHart", "bOf", "(I)I"⟩
abbrev cX0_bOf : ByteArray := prog_1_method_32_code
abbrev yX0_iOf : MethodName := ⟨"PagedHart", "iOf", "(I)I"⟩
abbrev cX0_iOf : ByteArray := prog_1_method_33_code
abbrev yX0_sOf : MethodName := ⟨"PagedHart", "sOf", "(I)I"⟩
abbrev cX0_sOf : ByteArray := prog_1_method_34_code
abbrev yX0_uOf : MethodName := ⟨"PagedHart", "uOf", "(I)I"⟩
abbrev cX0_uOf : ByteArray := prog_1_method_35_code
abbrev yX0_branchDistance : MethodName := ⟨"PagedHart", "branchDistance", "(I)I"⟩
abbrev cX0_branchDistance : ByteArray := prog_1_method_36_code
abbrev yX0_jumpDistance : MethodName := ⟨"PagedHart", "jumpDistance", "(I)I"⟩
abbrev cX0_jumpDistance : ByteArray := prog_1_method_37_code
abbrev yX0_perform : MethodName := ⟨"PagedHart", "perform", "(I)Z"⟩
abbrev cX0_perform : ByteArray := prog_1_method_38_code
abbrev yX0_jump : MethodName := ⟨"PagedHart", "jump", "(II)Z"⟩
abbrev cX0_jump : ByteArray := prog_1_method_39_code
abbrev yX0_branch : MethodName := ⟨"PagedHart", "branch", "(I)Z"⟩
abbrev cX0_branch : ByteArray := prog_1_method_40_code
abbrev yX0_isTaken : MethodName := ⟨"PagedHart", "isTaken", "(III)Z"⟩
abbrev cX0_isTaken : ByteArray := prog_1_method_41_code
abbrev yX0_isBelow : MethodName := ⟨"PagedHart", "isBelow", "(II)Z"⟩
abbrev cX0_isBelow : ByteArray := prog_1_method_42_code
abbrev yX0_load : MethodName := ⟨"PagedHart", "load", "(I)Z"⟩
abbrev cX0_load : ByteArray := prog_1_method_43_code
abbrev yX0_extend : MethodName := ⟨"PagedHart", "extend", "(II)I"⟩
abbrev cX0_extend : ByteArray := prog_1_method_44_code
abbrev yX0_store : MethodName := ⟨"PagedHart", "store", "(I)Z"⟩
abbrev cX0_store : ByteArray := prog_1_method_45_code
abbrev yX0_maskOf : MethodName := ⟨"PagedHart", "maskOf", "(I)I"⟩
abbrev cX0_maskOf : ByteArray := prog_1_method_46_code
abbrev yX0_calculateWithNumber : MethodName := ⟨"PagedHart", "calculateWithNumber", "(I)Z"⟩
abbrev cX0_calculateWithNumber : ByteArray := prog_1_method_47_code
abbrev yX0_calculateWithRegister : MethodName := ⟨"PagedHart", "calculateWithRegister", "(I)Z"⟩
abbrev cX0_calculateWithRegister : ByteArray := prog_1_method_48_code
abbrev yX0_calculate : MethodName := ⟨"PagedHart", "calculate", "(III)I"⟩
abbrev cX0_calculate : ByteArray := prog_1_method_49_code
abbrev yX0_multiply : MethodName := ⟨"PagedHart", "multiply", "(III)I"⟩
abbrev cX0_multiply : ByteArray := prog_1_method_50_code
abbrev yX0_divide : MethodName := ⟨"PagedHart", "divide", "(III)I"⟩
abbrev cX0_divide : ByteArray := prog_1_method_51_code
abbrev yX0_performSystem : MethodName := ⟨"PagedHart", "performSystem", "(I)Z"⟩
abbrev cX0_performSystem : ByteArray := prog_1_method_52_code
abbrev yX0_call : MethodName := ⟨"PagedHart", "call", "()Z"⟩
abbrev cX0_call : ByteArray := prog_1_method_53_code
abbrev yX0_returnFromTrap : MethodName := ⟨"PagedHart", "returnFromTrap", "()Z"⟩
abbrev cX0_returnFromTrap : ByteArray := prog_1_method_54_code
abbrev yX0_changeControl : MethodName := ⟨"PagedHart", "changeControl", "(I)Z"⟩
abbrev cX0_changeControl : ByteArray := prog_1_method_55_code
abbrev yX0_changed : MethodName := ⟨"PagedHart", "changed", "(III)I"⟩
abbrev cX0_changed : ByteArray := prog_1_method_56_code
abbrev yX1_init : MethodName := ⟨"PagedHartModel", "<init>", "()V"⟩
abbrev cX1_init : ByteArray := prog_3_method_1_code
abbrev yX1_thrown : MethodName := ⟨"PagedHartModel", "thrown", "()I"⟩
abbrev cX1_thrown : ByteArray := prog_3_method_2_code
abbrev yX1_plain : MethodName := ⟨"PagedHartModel", "plain", "(I)J"⟩
abbrev cX1_plain : ByteArray := prog_3_method_3_code
abbrev yX1_bits : MethodName := ⟨"PagedHartModel", "bits", "(III)I"⟩
abbrev cX1_bits : ByteArray := prog_3_method_4_code
abbrev yX1_has : MethodName := ⟨"PagedHartModel", "has", "(II)Z"⟩
abbrev cX1_has : ByteArray := prog_3_method_5_code
abbrev yX1_isWord : MethodName := ⟨"PagedHartModel", "isWord", "(I)Z"⟩
abbrev cX1_isWord : ByteArray := prog_3_method_6_code
abbrev yX1_pageCause : MethodName := ⟨"PagedHartModel", "pageCause", "(I)I"⟩
abbrev cX1_pageCause : ByteArray := prog_3_method_7_code
abbrev yX1_accessCause : MethodName := ⟨"PagedHartModel", "accessCause", "(I)I"⟩
abbrev cX1_accessCause : ByteArray := prog_3_method_8_code
abbrev yX1_lets : MethodName := ⟨"PagedHartModel", "lets", "(IIZ)Z"⟩
abbrev cX1_lets : ByteArray := prog_3_method_9_code
abbrev yX1_translated : MethodName := ⟨"PagedHartModel", "translated", "(II)I"⟩
abbrev cX1_translated : ByteArray := prog_3_method_10_code
abbrev yX1_trap : MethodName := ⟨"PagedHartModel", "trap", "(II)V"⟩
abbrev cX1_trap : ByteArray := prog_3_method_11_code
abbrev yX1_reach : MethodName := ⟨"PagedHartModel", "reach", "(III)I"⟩
abbrev cX1_reach : ByteArray := prog_3_method_12_code
abbrev yX1_set : MethodName := ⟨"PagedHartModel", "set", "(II)V"⟩
abbrev cX1_set : ByteArray := prog_3_method_13_code
abbrev yX1_step : MethodName := ⟨"PagedHartModel", "step", "()V"⟩
abbrev cX1_step : ByteArray := prog_3_method_14_code
abbrev yX1_perform : MethodName := ⟨"PagedHartModel", "perform", "(I)V"⟩
abbrev cX1_perform : ByteArray := prog_3_method_15_code
abbrev yX1_far : MethodName := ⟨"PagedHartModel", "far", "(I)I"⟩
abbrev cX1_far : ByteArray := prog_3_method_16_code
abbrev yX1_near : MethodName := ⟨"PagedHartModel", "near", "(I)I"⟩
abbrev cX1_near : ByteArray := prog_3_method_17_code
abbrev yX1_jump : MethodName := ⟨"PagedHartModel", "jump", "(II)V"⟩
abbrev cX1_jump : ByteArray := prog_3_method_18_code
abbrev yX1_branch : MethodName := ⟨"PagedHartModel", "branch", "(IIII)V"⟩
abbrev cX1_branch : ByteArray := prog_3_method_19_code
abbrev yX1_load : MethodName := ⟨"PagedHartModel", "load", "(IIII)V"⟩
abbrev cX1_load : ByteArray := prog_3_method_20_code
abbrev yX1_store : MethodName := ⟨"PagedHartModel", "store", "(IIII)V"⟩
abbrev cX1_store : ByteArray := prog_3_method_21_code
abbrev yX1_power : MethodName := ⟨"PagedHartModel", "power", "(I)I"⟩
abbrev cX1_power : ByteArray := prog_3_method_22_code
abbrev yX1_right : MethodName := ⟨"PagedHartModel", "right", "(IIZ)I"⟩
abbrev cX1_right : ByteArray := prog_3_method_23_code
abbrev yX1_simple : MethodName := ⟨"PagedHartModel", "simple", "(III)I"⟩
abbrev cX1_simple : ByteArray := prog_3_method_24_code
abbrev yX1_withNumber : MethodName := ⟨"PagedHartModel", "withNumber", "(IIIII)V"⟩
abbrev cX1_withNumber : ByteArray := prog_3_method_25_code
abbrev yX1_withTwo : MethodName := ⟨"PagedHartModel", "withTwo", "(IIIII)V"⟩
abbrev cX1_withTwo : ByteArray := prog_3_method_26_code
abbrev yX1_product : MethodName := ⟨"PagedHartModel", "product", "(III)I"⟩
abbrev cX1_product : ByteArray := prog_3_method_27_code
abbrev yX1_quotient : MethodName := ⟨"PagedHartModel", "quotient", "(III)I"⟩
abbrev cX1_quotient : ByteArray := prog_3_method_28_code
abbrev yX1_system : MethodName := ⟨"PagedHartModel", "system", "(IIII)V"⟩
abbrev cX1_system : ByteArray := prog_3_method_29_code
abbrev yX1_exchange : MethodName := ⟨"PagedHartModel", "exchange", "(IIII)V"⟩
abbrev cX1_exchange : ByteArray := prog_3_method_30_code
abbrev yX1_isControl : MethodName := ⟨"PagedHartModel", "isControl", "(I)Z"⟩
abbrev cX1_isControl : ByteArray := prog_3_method_31_code
abbrev yX1_controlOf : MethodName := ⟨"PagedHartModel", "controlOf", "(I)I"⟩
abbrev cX1_controlOf : ByteArray := prog_3_method_32_code
abbrev yX1_putControl : MethodName := ⟨"PagedHartModel", "putControl", "(II)V"⟩
abbrev cX1_putControl : ByteArray := prog_3_method_33_code
abbrev yX1_run : MethodName := ⟨"PagedHartModel", "run", "(I)I"⟩
abbrev cX1_run : ByteArray := prog_3_method_34_code
abbrev yX1_called : MethodName := ⟨"PagedHartModel", "called", "()Z"⟩
abbrev cX1_called : ByteArray := prog_3_method_35_code
abbrev yX1_isPlace : MethodName := ⟨"PagedHartModel", "isPlace", "(I)Z"⟩
abbrev cX1_isPlace : ByteArray := prog_3_method_36_code
abbrev yX1_peek : MethodName := ⟨"PagedHartModel", "peek", "(I)I"⟩
abbrev cX1_peek : ByteArray := prog_3_method_37_code
abbrev yX1_poke : MethodName := ⟨"PagedHartModel", "poke", "(II)V"⟩
abbrev cX1_poke : ByteArray := prog_3_method_38_code
abbrev yX1_pokeFour : MethodName := ⟨"PagedHartModel", "pokeFour", "(IIIII)V"⟩
abbrev cX1_pokeFour : ByteArray := prog_3_method_39_code
abbrev yX1_register : MethodName := ⟨"PagedHartModel", "register", "(I)I"⟩
abbrev cX1_register : ByteArray := prog_3_method_40_code
abbrev yX1_setRegister : MethodName := ⟨"PagedHartModel", "setRegister", "(II)V"⟩
abbrev cX1_setRegister : ByteArray := prog_3_method_41_code
abbrev yX1_control : MethodName := ⟨"PagedHartModel", "control", "(I)I"⟩
abbrev cX1_control : ByteArray := prog_3_method_42_code
abbrev yX1_setControl : MethodName := ⟨"PagedHartModel", "setControl", "(II)V"⟩
abbrev cX1_setControl : ByteArray := prog_3_method_43_code
abbrev yX1_translate : MethodName := ⟨"PagedHartModel", "translate", "(II)I"⟩
abbrev cX1_translate : ByteArray := prog_3_method_44_code
abbrev yXL_run : MethodName := ⟨"PagedHartLaw", "run", "(LPagedHart;I[J)I"⟩
abbrev cXL_run : ByteArray := method_3_code
abbrev yXL_peek : MethodName := ⟨"PagedHartLaw", "peek", "(LPagedHart;I[J)I"⟩
abbrev cXL_peek : ByteArray := method_4_code
abbrev yXL_poke : MethodName := ⟨"PagedHartLaw", "poke", "(LPagedHart;II)I"⟩
abbrev cXL_poke : ByteArray := method_5_code
abbrev yXL_pokeFour : MethodName := ⟨"PagedHartLaw", "pokeFour", "(LPagedHart;IIIII)I"⟩
abbrev cXL_pokeFour : ByteArray := method_6_code
abbrev yXL_register : MethodName := ⟨"PagedHartLaw", "register", "(LPagedHart;I[J)I"⟩
abbrev cXL_register : ByteArray := method_7_code
abbrev yXL_setRegister : MethodName := ⟨"PagedHartLaw", "setRegister", "(LPagedHart;II)I"⟩
abbrev cXL_setRegister : ByteArray := method_8_code
abbrev yXL_control : MethodName := ⟨"PagedHartLaw", "control", "(LPagedHart;I[J)I"⟩
abbrev cXL_control : ByteArray := method_9_code
abbrev yXL_setControl : MethodName := ⟨"PagedHartLaw", "setControl", "(LPagedHart;II)I"⟩
abbrev cXL_setControl : ByteArray := method_10_code
abbrev yXL_translate : MethodName := ⟨"PagedHartLaw", "translate", "(LPagedHart;II[J)I"⟩
abbrev cXL_translate : ByteArray := method_11_code
theorem mN_L : Cond.initialized "PagedHartLaw" ∈ gBIG := mt1 0 rfl rfl
theorem mN_0 : Cond.initialized "PagedHart" ∈ gBIG := mt1 1 rfl rfl
theorem mN_1 : Cond.initialized "PagedHartModel" ∈ gBIG := mt1 2 rfl rfl
theorem mN_Throwable : Cond.initialized "java/lang/Throwable" ∈ gBIG := mt1 3 rfl rfl
theorem mN_Exception : Cond.initialized "java/lang/Exception" ∈ gBIG := mt1 4 rfl rfl
theorem mN_RuntimeException : Cond.initialized "java/lang/RuntimeException" ∈ gBIG := mt1 5 rfl rfl
theorem mN_IllegalArgumentException : Cond.initialized "java/lang/IllegalArgumentException" ∈ gBIG := mt1 6 rfl rfl
theorem mN_IndexOutOfBoundsException : Cond.initialized "java/lang/IndexOutOfBoundsException" ∈ gBIG := mt1 7 rfl rfl
theorem mN_NoSuchElementException : Cond.initialized "java/util/NoSuchElementException" ∈ gBIG := mt1 8 rfl rfl
theorem mK_L_8 : Cond.classLink "PagedHartLaw" 8 "PagedHart" ∈ gBIG := mt1 9 rfl rfl
theorem mY_0 : Cond.instantiable "PagedHart" 6 ∈ gBIG := mt1 10 rfl rfl
theorem mL_L_46 : Cond.methodLink "PagedHartLaw" 46 (⟨"PagedHart", "<init>", "()V"⟩ : MethodName) ∈ gBIG := mt1 11 rfl rfl
theorem mI_0_init : Cond.instanceMethod (⟨"PagedHart", "<init>", "()V"⟩ : MethodName) ∈ gBIG := mt1 12 rfl rfl
theorem mB_0_init : Cond.code (⟨"PagedHart", "<init>", "()V"⟩ : MethodName) prog_1_method_1_code 1 none ∈ gBIG := mt1 13 rfl rfl
theorem mL_0_3 : Cond.methodLink "PagedHart" 3 (⟨"java/lang/Object", "<init>", "()V"⟩ : MethodName) ∈ gBIG := mt1 14 rfl rfl
theorem mI_O_init : Cond.instanceMethod (⟨"java/lang/Object", "<init>", "()V"⟩ : MethodName) ∈ gBIG := mt1 15 rfl rfl
theorem mB_O_init : Cond.code (⟨"java/lang/Object", "<init>", "()V"⟩ : MethodName) object_method_1_code 1 none ∈ gBIG := mt1 16 rfl rfl
theorem mC_0_9 : Cond.constant "PagedHart" 9 (65536) ∈ gBIG := mt1 17 rfl rfl
theorem mF_0_10 : Cond.fieldLink "PagedHart" 10 "PagedHart" "memory" "[I" ∈ gBIG := mt1 18 rfl rfl
theorem mF_0_14 : Cond.fieldLink "PagedHart" 14 "PagedHart" "registers" "[I" ∈ gBIG := mt1 19 rfl rfl
theorem mF_0_17 : Cond.fieldLink "PagedHart" 17 "PagedHart" "controls" "[I" ∈ gBIG := mt1 20 rfl rfl
theorem mF_0_20 : Cond.fieldLink "PagedHart" 20 "PagedHart" "pc" "I" ∈ gBIG := mt1 21 rfl rfl
theorem mF_0_24 : Cond.fieldLink "PagedHart" 24 "PagedHart" "mode" "I" ∈ gBIG := mt1 22 rfl rfl
theorem mF_0_27 : Cond.fieldLink "PagedHart" 27 "PagedHart" "endedByCall" "Z" ∈ gBIG := mt1 23 rfl rfl
theorem mA_int : Cond.arrayClass .int ∈ gBIG := mt1 37 rfl rfl
theorem mL_L_60 : Cond.methodLink "PagedHartLaw" 60 (⟨"PagedHart", "called", "()Z"⟩ : MethodName) ∈ gBIG := mt1 38 rfl rfl
theorem mI_0_called : Cond.instanceMethod (⟨"PagedHart", "called", "()Z"⟩ : MethodName) ∈ gBIG := mt1 39 rfl rfl
theorem mX_0_called : Cond.selects "PagedHart" (⟨"PagedHart", "called", "()Z"⟩ : MethodName) (⟨"PagedHart", "called", "()Z"⟩ : MethodName) ∈ gBIG := mt1 40 rfl rfl
theorem mB_0_called : Cond.code (⟨"PagedHart", "called", "()Z"⟩ : MethodName) prog_1_method_3_code 1 (some .boolean) ∈ gBIG := mt1 41 rfl rfl
theorem mL_L_50 : Cond.methodLink "PagedHartLaw" 50 (⟨"PagedHartLaw", "run", "(LPagedHart;I[J)I"⟩ : MethodName) ∈ gBIG := mt1 42 rfl rfl
theorem mS_L_run : Cond.static (⟨"PagedHartLaw", "run", "(LPagedHart;I[J)I"⟩ : MethodName) ∈ gBIG := mt1 43 rfl rfl
theorem mB_L_run : Cond.codeWith (⟨"PagedHartLaw", "run", "(LPagedHart;I[J)I"⟩ : MethodName) method_3_code 4 (some .int) [(0, 9, 12, 13)] ∈ gBIG := mt1 44 rfl rfl
theorem mK_L_13 : Cond.classLink "PagedHartLaw" 13 "java/lang/IllegalArgumentException" ∈ gBIG := mt1 45 rfl rfl
theorem mL_L_7 : Cond.methodLink "PagedHartLaw" 7 (⟨"PagedHart", "run", "(I)I"⟩ : MethodName) ∈ gBIG := mt1 46 rfl rfl
theorem mI_0_run : Cond.instanceMethod (⟨"PagedHart", "run", "(I)I"⟩ : MethodName) ∈ gBIG := mt1 47 rfl rfl
theorem mX_0_run : Cond.selects "PagedHart" (⟨"PagedHart", "run", "(I)I"⟩ : MethodName) (⟨"PagedHart", "run", "(I)I"⟩ : MethodName) ∈ gBIG := mt1 48 rfl rfl
theorem mB_0_run : Cond.code (⟨"PagedHart", "run", "(I)I"⟩ : MethodName) prog_1_method_2_code 3 (some .int) ∈ gBIG := mt1 49 rfl rfl
theorem mK_0_31 : Cond.classLink "PagedHart" 31 "java/lang/IllegalArgumentException" ∈ gBIG := mt1 50 rfl rfl
theorem mY_IllegalArgumentException : Cond.instantiable "java/lang/IllegalArgumentException" 6 ∈ gBIG := mt1 51 rfl rfl
theorem mY_Throwable : Cond.instantiable "java/lang/Throwable" 6 ∈ gBIG := mt1 89 rfl rfl
theorem mL_0_35 : Cond.methodLink "PagedHart" 35 (⟨"java/lang/IllegalArgumentException", "<init>", "(Ljava/lang/String;)V"⟩ : MethodName) ∈ gBIG := mt1 92 rfl rfl
theorem mA_byte : Cond.arrayClass .byte ∈ gBIG := mt1 117 rfl rfl
theorem mL_0_38 : Cond.methodLink "PagedHart" 38 (⟨"PagedHart", "step", "()V"⟩ : MethodName) ∈ gBIG := mt1 118 rfl rfl
theorem mI_0_step : Cond.instanceMethod (⟨"PagedHart", "step", "()V"⟩ : MethodName) ∈ gBIG := mt1 120 rfl rfl
theorem mB_0_step : Cond.code (⟨"PagedHart", "step", "()V"⟩ : MethodName) prog_1_method_22_code 3 none ∈ gBIG := mt1 121 rfl rfl
theorem mL_0_96 : Cond.methodLink "PagedHart" 96 (⟨"PagedHart", "trap", "(II)Z"⟩ : MethodName) ∈ gBIG := mt1 122 rfl rfl
theorem mI_0_trap : Cond.instanceMethod (⟨"PagedHart", "trap", "(II)Z"⟩ : MethodName) ∈ gBIG := mt1 124 rfl rfl
theorem mB_0_trap : Cond.code (⟨"PagedHart", "trap", "(II)Z"⟩ : MethodName) prog_1_method_24_code 3 (some .boolean) ∈ gBIG := mt1 125 rfl rfl
theorem mF_0_63 : Cond.fieldLink "PagedHart" 63 "PagedHart" "CONTROL_BITS" "[I" ∈ gBIG := mt1 126 rfl rfl
theorem mC_0_72 : Cond.constant "PagedHart" 72 (262144) ∈ gBIG := mt1 128 rfl rfl
theorem mC_0_99 : Cond.constant "PagedHart" 99 (-2147483643) ∈ gBIG := mt1 129 rfl rfl
theorem mL_0_100 : Cond.methodLink "PagedHart" 100 (⟨"PagedHart", "locateAligned", "(III)I"⟩ : MethodName) ∈ gBIG := mt1 130 rfl rfl
theorem mI_0_locateAligned : Cond.instanceMethod (⟨"PagedHart", "locateAligned", "(III)I"⟩ : MethodName) ∈ gBIG := mt1 132 rfl rfl
theorem mB_0_locateAligned : Cond.code (⟨"PagedHart", "locateAligned", "(III)I"⟩ : MethodName) prog_1_method_14_code 4 (some .int) ∈ gBIG := mt1 133 rfl rfl
theorem mL_0_76 : Cond.methodLink "PagedHart" 76 (⟨"PagedHart", "misalignedCause", "(I)I"⟩ : MethodName) ∈ gBIG := mt1 134 rfl rfl
theorem mS_0_misalignedCause : Cond.static (⟨"PagedHart", "misalignedCause", "(I)I"⟩ : MethodName) ∈ gBIG := mt1 135 rfl rfl
theorem mB_0_misalignedCause : Cond.code (⟨"PagedHart", "misalignedCause", "(I)I"⟩ : MethodName) prog_1_method_18_code 1 (some .int) ∈ gBIG := mt1 136 rfl rfl
theorem mL_0_68 : Cond.methodLink "PagedHart" 68 (⟨"PagedHart", "locate", "(II)I"⟩ : MethodName) ∈ gBIG := mt1 137 rfl rfl
theorem mI_0_locate : Cond.instanceMethod (⟨"PagedHart", "locate", "(II)I"⟩ : MethodName) ∈ gBIG := mt1 139 rfl rfl
theorem mB_0_locate : Cond.code (⟨"PagedHart", "locate", "(II)I"⟩ : MethodName) prog_1_method_15_code 8 (some .int) ∈ gBIG := mt1 140 rfl rfl
theorem mL_0_73 : Cond.methodLink "PagedHart" 73 (⟨"PagedHart", "isInMemory", "(I)Z"⟩ : MethodName) ∈ gBIG := mt1 141 rfl rfl
theorem mS_0_isInMemory : Cond.static (⟨"PagedHart", "isInMemory", "(I)Z"⟩ : MethodName) ∈ gBIG := mt1 142 rfl rfl
theorem mB_0_isInMemory : Cond.code (⟨"PagedHart", "isInMemory", "(I)Z"⟩ : MethodName) prog_1_method_12_code 1 (some .boolean) ∈ gBIG := mt1 143 rfl rfl
theorem mL_0_79 : Cond.methodLink "PagedHart" 79 (⟨"PagedHart", "accessCause", "(I)I"⟩ : MethodName) ∈ gBIG := mt1 144 rfl rfl
theorem mS_0_accessCause : Cond.static (⟨"PagedHart", "accessCause", "(I)I"⟩ : MethodName) ∈ gBIG := mt1 145 rfl rfl
theorem mB_0_accessCause : Cond.code (⟨"PagedHart", "accessCause", "(I)I"⟩ : MethodName) prog_1_method_19_code 1 (some .int) ∈ gBIG := mt1 146 rfl rfl
theorem mC_0_82 : Cond.constant "PagedHart" 82 (4194303) ∈ gBIG := mt1 147 rfl rfl
theorem mL_0_83 : Cond.methodLink "PagedHart" 83 (⟨"PagedHart", "frameOf", "(I)I"⟩ : MethodName) ∈ gBIG := mt1 148 rfl rfl
theorem mS_0_frameOf : Cond.static (⟨"PagedHart", "frameOf", "(I)I"⟩ : MethodName) ∈ gBIG := mt1 149 rfl rfl
theorem mB_0_frameOf : Cond.code (⟨"PagedHart", "frameOf", "(I)I"⟩ : MethodName) prog_1_method_16_code 1 (some .int) ∈ gBIG := mt1 150 rfl rfl
theorem mL_0_86 : Cond.methodLink "PagedHart" 86 (⟨"PagedHart", "permits", "(II)Z"⟩ : MethodName) ∈ gBIG := mt1 151 rfl rfl
theorem mI_0_permits : Cond.instanceMethod (⟨"PagedHart", "permits", "(II)Z"⟩ : MethodName) ∈ gBIG := mt1 153 rfl rfl
theorem mB_0_permits : Cond.code (⟨"PagedHart", "permits", "(II)Z"⟩ : MethodName) prog_1_method_17_code 6 (some .boolean) ∈ gBIG := mt1 154 rfl rfl
theorem mL_0_90 : Cond.methodLink "PagedHart" 90 (⟨"PagedHart", "pageCause", "(I)I"⟩ : MethodName) ∈ gBIG := mt1 155 rfl rfl
theorem mS_0_pageCause : Cond.static (⟨"PagedHart", "pageCause", "(I)I"⟩ : MethodName) ∈ gBIG := mt1 156 rfl rfl
theorem mB_0_pageCause : Cond.code (⟨"PagedHart", "pageCause", "(I)I"⟩ : MethodName) prog_1_method_20_code 1 (some .int) ∈ gBIG := mt1 157 rfl rfl
theorem mL_0_104 : Cond.methodLink "PagedHart" 104 (⟨"PagedHart", "perform", "(I)Z"⟩ : MethodName) ∈ gBIG := mt1 158 rfl rfl
theorem mI_0_perform : Cond.instanceMethod (⟨"PagedHart", "perform", "(I)Z"⟩ : MethodName) ∈ gBIG := mt1 160 rfl rfl
theorem mB_0_perform : Cond.code (⟨"PagedHart", "perform", "(I)Z"⟩ : MethodName) prog_1_method_38_code 2 (some .boolean) ∈ gBIG := mt1 161 rfl rfl
theorem mL_0_119 : Cond.methodLink "PagedHart" 119 (⟨"PagedHart", "uOf", "(I)I"⟩ : MethodName) ∈ gBIG := mt1 162 rfl rfl
theorem mS_0_uOf : Cond.static (⟨"PagedHart", "uOf", "(I)I"⟩ : MethodName) ∈ gBIG := mt1 163 rfl rfl
theorem mB_0_uOf : Cond.code (⟨"PagedHart", "uOf", "(I)I"⟩ : MethodName) prog_1_method_35_code 1 (some .int) ∈ gBIG := mt1 164 rfl rfl
theorem mL_0_122 : Cond.methodLink "PagedHart" 122 (⟨"PagedHart", "goOnWith", "(II)Z"⟩ : MethodName) ∈ gBIG := mt1 165 rfl rfl
theorem mI_0_goOnWith : Cond.instanceMethod (⟨"PagedHart", "goOnWith", "(II)Z"⟩ : MethodName) ∈ gBIG := mt1 167 rfl rfl
theorem mB_0_goOnWith : Cond.code (⟨"PagedHart", "goOnWith", "(II)Z"⟩ : MethodName) prog_1_method_27_code 3 (some .boolean) ∈ gBIG := mt1 168 rfl rfl
theorem mL_0_111 : Cond.methodLink "PagedHart" 111 (⟨"PagedHart", "writeD", "(II)V"⟩ : MethodName) ∈ gBIG := mt1 169 rfl rfl
theorem mI_0_writeD : Cond.instanceMethod (⟨"PagedHart", "writeD", "(II)V"⟩ : MethodName) ∈ gBIG := mt1 171 rfl rfl
theorem mB_0_writeD : Cond.code (⟨"PagedHart", "writeD", "(II)V"⟩ : MethodName) prog_1_method_28_code 4 none ∈ gBIG := mt1 172 rfl rfl
theorem mL_0_115 : Cond.methodLink "PagedHart" 115 (⟨"PagedHart", "goOn", "()Z"⟩ : MethodName) ∈ gBIG := mt1 173 rfl rfl
theorem mI_0_goOn : Cond.instanceMethod (⟨"PagedHart", "goOn", "()Z"⟩ : MethodName) ∈ gBIG := mt1 175 rfl rfl
theorem mB_0_goOn : Cond.code (⟨"PagedHart", "goOn", "()Z"⟩ : MethodName) prog_1_method_26_code 1 (some .boolean) ∈ gBIG := mt1 176 rfl rfl
theorem mL_0_125 : Cond.methodLink "PagedHart" 125 (⟨"PagedHart", "jumpDistance", "(I)I"⟩ : MethodName) ∈ gBIG := mt1 177 rfl rfl
theorem mS_0_jumpDistance : Cond.static (⟨"PagedHart", "jumpDistance", "(I)I"⟩ : MethodName) ∈ gBIG := mt1 178 rfl rfl
theorem mB_0_jumpDistance : Cond.code (⟨"PagedHart", "jumpDistance", "(I)I"⟩ : MethodName) prog_1_method_37_code 1 (some .int) ∈ gBIG := mt1 179 rfl rfl
theorem mL_0_128 : Cond.methodLink "PagedHart" 128 (⟨"PagedHart", "jump", "(II)Z"⟩ : MethodName) ∈ gBIG := mt1 180 rfl rfl
theorem mI_0_jump : Cond.instanceMethod (⟨"PagedHart", "jump", "(II)Z"⟩ : MethodName) ∈ gBIG := mt1 182 rfl rfl
theorem mB_0_jump : Cond.code (⟨"PagedHart", "jump", "(II)Z"⟩ : MethodName) prog_1_method_39_code 3 (some .boolean) ∈ gBIG := mt1 183 rfl rfl
theorem mL_0_131 : Cond.methodLink "PagedHart" 131 (⟨"PagedHart", "fOf", "(I)I"⟩ : MethodName) ∈ gBIG := mt1 184 rfl rfl
theorem mS_0_fOf : Cond.static (⟨"PagedHart", "fOf", "(I)I"⟩ : MethodName) ∈ gBIG := mt1 185 rfl rfl
theorem mB_0_fOf : Cond.code (⟨"PagedHart", "fOf", "(I)I"⟩ : MethodName) prog_1_method_29_code 1 (some .int) ∈ gBIG := mt1 186 rfl rfl
theorem mL_0_134 : Cond.methodLink "PagedHart" 134 (⟨"PagedHart", "aOf", "(I)I"⟩ : MethodName) ∈ gBIG := mt1 187 rfl rfl
theorem mI_0_aOf : Cond.instanceMethod (⟨"PagedHart", "aOf", "(I)I"⟩ : MethodName) ∈ gBIG := mt1 189 rfl rfl
theorem mB_0_aOf : Cond.code (⟨"PagedHart", "aOf", "(I)I"⟩ : MethodName) prog_1_method_31_code 2 (some .int) ∈ gBIG := mt1 190 rfl rfl
theorem mL_0_137 : Cond.methodLink "PagedHart" 137 (⟨"PagedHart", "iOf", "(I)I"⟩ : MethodName) ∈ gBIG := mt1 191 rfl rfl
theorem mS_0_iOf : Cond.static (⟨"PagedHart", "iOf", "(I)I"⟩ : MethodName) ∈ gBIG := mt1 192 rfl rfl
theorem mB_0_iOf : Cond.code (⟨"PagedHart", "iOf", "(I)I"⟩ : MethodName) prog_1_method_33_code 1 (some .int) ∈ gBIG := mt1 193 rfl rfl
theorem mL_0_140 : Cond.methodLink "PagedHart" 140 (⟨"PagedHart", "refuse", "(I)Z"⟩ : MethodName) ∈ gBIG := mt1 194 rfl rfl
theorem mI_0_refuse : Cond.instanceMethod (⟨"PagedHart", "refuse", "(I)Z"⟩ : MethodName) ∈ gBIG := mt1 196 rfl rfl
theorem mB_0_refuse : Cond.code (⟨"PagedHart", "refuse", "(I)Z"⟩ : MethodName) prog_1_method_25_code 2 (some .boolean) ∈ gBIG := mt1 197 rfl rfl
theorem mL_0_143 : Cond.methodLink "PagedHart" 143 (⟨"PagedHart", "branch", "(I)Z"⟩ : MethodName) ∈ gBIG := mt1 198 rfl rfl
theorem mI_0_branch : Cond.instanceMethod (⟨"PagedHart", "branch", "(I)Z"⟩ : MethodName) ∈ gBIG := mt1 200 rfl rfl
theorem mB_0_branch : Cond.code (⟨"PagedHart", "branch", "(I)Z"⟩ : MethodName) prog_1_method_40_code 4 (some .boolean) ∈ gBIG := mt1 201 rfl rfl
theorem mL_0_161 : Cond.methodLink "PagedHart" 161 (⟨"PagedHart", "bOf", "(I)I"⟩ : MethodName) ∈ gBIG := mt1 202 rfl rfl
theorem mI_0_bOf : Cond.instanceMethod (⟨"PagedHart", "bOf", "(I)I"⟩ : MethodName) ∈ gBIG := mt1 204 rfl rfl
theorem mB_0_bOf : Cond.code (⟨"PagedHart", "bOf", "(I)I"⟩ : MethodName) prog_1_method_32_code 2 (some .int) ∈ gBIG := mt1 205 rfl rfl
theorem mL_0_164 : Cond.methodLink "PagedHart" 164 (⟨"PagedHart", "isTaken", "(III)Z"⟩ : MethodName) ∈ gBIG := mt1 206 rfl rfl
theorem mS_0_isTaken : Cond.static (⟨"PagedHart", "isTaken", "(III)Z"⟩ : MethodName) ∈ gBIG := mt1 207 rfl rfl
theorem mB_0_isTaken : Cond.code (⟨"PagedHart", "isTaken", "(III)Z"⟩ : MethodName) prog_1_method_41_code 4 (some .boolean) ∈ gBIG := mt1 208 rfl rfl
theorem mL_0_171 : Cond.methodLink "PagedHart" 171 (⟨"PagedHart", "isBelow", "(II)Z"⟩ : MethodName) ∈ gBIG := mt1 209 rfl rfl
theorem mS_0_isBelow : Cond.static (⟨"PagedHart", "isBelow", "(II)Z"⟩ : MethodName) ∈ gBIG := mt1 210 rfl rfl
theorem mB_0_isBelow : Cond.code (⟨"PagedHart", "isBelow", "(II)Z"⟩ : MethodName) prog_1_method_42_code 2 (some .boolean) ∈ gBIG := mt1 211 rfl rfl
theorem mC_0_174 : Cond.constantLong "PagedHart" 174 (4294967295) ∈ gBIG := mt1 212 rfl rfl
theorem mL_0_168 : Cond.methodLink "PagedHart" 168 (⟨"PagedHart", "branchDistance", "(I)I"⟩ : MethodName) ∈ gBIG := mt1 213 rfl rfl
theorem mS_0_branchDistance : Cond.static (⟨"PagedHart", "branchDistance", "(I)I"⟩ : MethodName) ∈ gBIG := mt1 214 rfl rfl
theorem mB_0_branchDistance : Cond.code (⟨"PagedHart", "branchDistance", "(I)I"⟩ : MethodName) prog_1_method_36_code 1 (some .int) ∈ gBIG := mt1 215 rfl rfl
theorem mL_0_146 : Cond.methodLink "PagedHart" 146 (⟨"PagedHart", "load", "(I)Z"⟩ : MethodName) ∈ gBIG := mt1 216 rfl rfl
theorem mI_0_load : Cond.instanceMethod (⟨"PagedHart", "load", "(I)Z"⟩ : MethodName) ∈ gBIG := mt1 218 rfl rfl
theorem mB_0_load : Cond.code (⟨"PagedHart", "load", "(I)Z"⟩ : MethodName) prog_1_method_43_code 5 (some .boolean) ∈ gBIG := mt1 219 rfl rfl
theorem mL_0_176 : Cond.methodLink "PagedHart" 176 (⟨"PagedHart", "extend", "(II)I"⟩ : MethodName) ∈ gBIG := mt1 220 rfl rfl
theorem mS_0_extend : Cond.static (⟨"PagedHart", "extend", "(II)I"⟩ : MethodName) ∈ gBIG := mt1 221 rfl rfl
theorem mB_0_extend : Cond.code (⟨"PagedHart", "extend", "(II)I"⟩ : MethodName) prog_1_method_44_code 2 (some .int) ∈ gBIG := mt1 222 rfl rfl
theorem mC_0_179 : Cond.constant "PagedHart" 179 (65535) ∈ gBIG := mt1 223 rfl rfl
theorem mL_0_149 : Cond.methodLink "PagedHart" 149 (⟨"PagedHart", "store", "(I)Z"⟩ : MethodName) ∈ gBIG := mt1 224 rfl rfl
theorem mI_0_store : Cond.instanceMethod (⟨"PagedHart", "store", "(I)Z"⟩ : MethodName) ∈ gBIG := mt1 226 rfl rfl
theorem mB_0_store : Cond.code (⟨"PagedHart", "store", "(I)Z"⟩ : MethodName) prog_1_method_45_code 7 (some .boolean) ∈ gBIG := mt1 227 rfl rfl
theorem mL_0_180 : Cond.methodLink "PagedHart" 180 (⟨"PagedHart", "sOf", "(I)I"⟩ : MethodName) ∈ gBIG := mt1 228 rfl rfl
theorem mS_0_sOf : Cond.static (⟨"PagedHart", "sOf", "(I)I"⟩ : MethodName) ∈ gBIG := mt1 229 rfl rfl
theorem mB_0_sOf : Cond.code (⟨"PagedHart", "sOf", "(I)I"⟩ : MethodName) prog_1_method_34_code 1 (some .int) ∈ gBIG := mt1 230 rfl rfl
theorem mL_0_183 : Cond.methodLink "PagedHart" 183 (⟨"PagedHart", "maskOf", "(I)I"⟩ : MethodName) ∈ gBIG := mt1 231 rfl rfl
theorem mS_0_maskOf : Cond.static (⟨"PagedHart", "maskOf", "(I)I"⟩ : MethodName) ∈ gBIG := mt1 232 rfl rfl
theorem mB_0_maskOf : Cond.code (⟨"PagedHart", "maskOf", "(I)I"⟩ : MethodName) prog_1_method_46_code 1 (some .int) ∈ gBIG := mt1 233 rfl rfl
theorem mL_0_152 : Cond.methodLink "PagedHart" 152 (⟨"PagedHart", "calculateWithNumber", "(I)Z"⟩ : MethodName) ∈ gBIG := mt1 234 rfl rfl
theorem mI_0_calculateWithNumber : Cond.instanceMethod (⟨"PagedHart", "calculateWithNumber", "(I)Z"⟩ : MethodName) ∈ gBIG := mt1 236 rfl rfl
theorem mB_0_calculateWithNumber : Cond.code (⟨"PagedHart", "calculateWithNumber", "(I)Z"⟩ : MethodName) prog_1_method_47_code 4 (some .boolean) ∈ gBIG := mt1 237 rfl rfl
theorem mL_0_186 : Cond.methodLink "PagedHart" 186 (⟨"PagedHart", "gOf", "(I)I"⟩ : MethodName) ∈ gBIG := mt1 238 rfl rfl
theorem mS_0_gOf : Cond.static (⟨"PagedHart", "gOf", "(I)I"⟩ : MethodName) ∈ gBIG := mt1 239 rfl rfl
theorem mB_0_gOf : Cond.code (⟨"PagedHart", "gOf", "(I)I"⟩ : MethodName) prog_1_method_30_code 1 (some .int) ∈ gBIG := mt2 0 rfl rfl
theorem mL_0_189 : Cond.methodLink "PagedHart" 189 (⟨"PagedHart", "calculate", "(III)I"⟩ : MethodName) ∈ gBIG := mt2 1 rfl rfl
theorem mS_0_calculate : Cond.static (⟨"PagedHart", "calculate", "(III)I"⟩ : MethodName) ∈ gBIG := mt2 2 rfl rfl
theorem mB_0_calculate : Cond.code (⟨"PagedHart", "calculate", "(III)I"⟩ : MethodName) prog_1_method_49_code 3 (some .int) ∈ gBIG := mt2 3 rfl rfl
theorem mL_0_155 : Cond.methodLink "PagedHart" 155 (⟨"PagedHart", "calculateWithRegister", "(I)Z"⟩ : MethodName) ∈ gBIG := mt2 4 rfl rfl
theorem mI_0_calculateWithRegister : Cond.instanceMethod (⟨"PagedHart", "calculateWithRegister", "(I)Z"⟩ : MethodName) ∈ gBIG := mt2 6 rfl rfl
theorem mB_0_calculateWithRegister : Cond.code (⟨"PagedHart", "calculateWithRegister", "(I)Z"⟩ : MethodName) prog_1_method_48_code 6 (some .boolean) ∈ gBIG := mt2 7 rfl rfl
theorem mL_0_192 : Cond.methodLink "PagedHart" 192 (⟨"PagedHart", "multiply", "(III)I"⟩ : MethodName) ∈ gBIG := mt2 8 rfl rfl
theorem mS_0_multiply : Cond.static (⟨"PagedHart", "multiply", "(III)I"⟩ : MethodName) ∈ gBIG := mt2 9 rfl rfl
theorem mB_0_multiply : Cond.code (⟨"PagedHart", "multiply", "(III)I"⟩ : MethodName) prog_1_method_50_code 3 (some .int) ∈ gBIG := mt2 10 rfl rfl
theorem mL_0_195 : Cond.methodLink "PagedHart" 195 (⟨"PagedHart", "divide", "(III)I"⟩ : MethodName) ∈ gBIG := mt2 11 rfl rfl
theorem mS_0_divide : Cond.static (⟨"PagedHart", "divide", "(III)I"⟩ : MethodName) ∈ gBIG := mt2 12 rfl rfl
theorem mB_0_divide : Cond.code (⟨"PagedHart", "divide", "(III)I"⟩ : MethodName) prog_1_method_51_code 9 (some .int) ∈ gBIG := mt2 13 rfl rfl
theorem mL_0_158 : Cond.methodLink "PagedHart" 158 (⟨"PagedHart", "performSystem", "(I)Z"⟩ : MethodName) ∈ gBIG := mt2 14 rfl rfl
theorem mI_0_performSystem : Cond.instanceMethod (⟨"PagedHart", "performSystem", "(I)Z"⟩ : MethodName) ∈ gBIG := mt2 16 rfl rfl
theorem mB_0_performSystem : Cond.code (⟨"PagedHart", "performSystem", "(I)Z"⟩ : MethodName) prog_1_method_52_code 2 (some .boolean) ∈ gBIG := mt2 17 rfl rfl
theorem mL_0_198 : Cond.methodLink "PagedHart" 198 (⟨"PagedHart", "call", "()Z"⟩ : MethodName) ∈ gBIG := mt2 18 rfl rfl
theorem mI_0_call : Cond.instanceMethod (⟨"PagedHart", "call", "()Z"⟩ : MethodName) ∈ gBIG := mt2 20 rfl rfl
theorem mB_0_call : Cond.code (⟨"PagedHart", "call", "()Z"⟩ : MethodName) prog_1_method_53_code 1 (some .boolean) ∈ gBIG := mt2 21 rfl rfl
theorem mC_0_201 : Cond.constant "PagedHart" 201 (1048691) ∈ gBIG := mt2 22 rfl rfl
theorem mL_0_202 : Cond.methodLink "PagedHart" 202 (⟨"PagedHart", "changeControl", "(I)Z"⟩ : MethodName) ∈ gBIG := mt2 23 rfl rfl
theorem mI_0_changeControl : Cond.instanceMethod (⟨"PagedHart", "changeControl", "(I)Z"⟩ : MethodName) ∈ gBIG := mt2 25 rfl rfl
theorem mB_0_changeControl : Cond.code (⟨"PagedHart", "changeControl", "(I)Z"⟩ : MethodName) prog_1_method_55_code 6 (some .boolean) ∈ gBIG := mt2 26 rfl rfl
theorem mL_0_54 : Cond.methodLink "PagedHart" 54 (⟨"PagedHart", "slotOf", "(I)I"⟩ : MethodName) ∈ gBIG := mt2 27 rfl rfl
theorem mS_0_slotOf : Cond.static (⟨"PagedHart", "slotOf", "(I)I"⟩ : MethodName) ∈ gBIG := mt2 28 rfl rfl
theorem mB_0_slotOf : Cond.code (⟨"PagedHart", "slotOf", "(I)I"⟩ : MethodName) prog_1_method_21_code 2 (some .int) ∈ gBIG := mt2 29 rfl rfl
theorem mF_0_93 : Cond.fieldLink "PagedHart" 93 "PagedHart" "CONTROL_NUMBERS" "[I" ∈ gBIG := mt2 30 rfl rfl
theorem mL_0_212 : Cond.methodLink "PagedHart" 212 (⟨"PagedHart", "changed", "(III)I"⟩ : MethodName) ∈ gBIG := mt2 32 rfl rfl
theorem mS_0_changed : Cond.static (⟨"PagedHart", "changed", "(III)I"⟩ : MethodName) ∈ gBIG := mt2 33 rfl rfl
theorem mB_0_changed : Cond.code (⟨"PagedHart", "changed", "(III)I"⟩ : MethodName) prog_1_method_56_code 3 (some .int) ∈ gBIG := mt2 34 rfl rfl
theorem mC_0_205 : Cond.constant "PagedHart" 205 (270532723) ∈ gBIG := mt2 35 rfl rfl
theorem mL_0_206 : Cond.methodLink "PagedHart" 206 (⟨"PagedHart", "returnFromTrap", "()Z"⟩ : MethodName) ∈ gBIG := mt2 36 rfl rfl
theorem mI_0_returnFromTrap : Cond.instanceMethod (⟨"PagedHart", "returnFromTrap", "()Z"⟩ : MethodName) ∈ gBIG := mt2 38 rfl rfl
theorem mB_0_returnFromTrap : Cond.code (⟨"PagedHart", "returnFromTrap", "()Z"⟩ : MethodName) prog_1_method_54_code 1 (some .boolean) ∈ gBIG := mt2 39 rfl rfl
theorem mC_0_209 : Cond.constant "PagedHart" 209 (273678451) ∈ gBIG := mt2 40 rfl rfl
theorem mC_0_210 : Cond.constant "PagedHart" 210 (-33521665) ∈ gBIG := mt2 41 rfl rfl
theorem mC_0_211 : Cond.constant "PagedHart" 211 (301990003) ∈ gBIG := mt2 42 rfl rfl
theorem mL_0_107 : Cond.methodLink "PagedHart" 107 (⟨"PagedHart", "countDown", "(I)V"⟩ : MethodName) ∈ gBIG := mt2 43 rfl rfl
theorem mI_0_countDown : Cond.instanceMethod (⟨"PagedHart", "countDown", "(I)V"⟩ : MethodName) ∈ gBIG := mt2 45 rfl rfl
theorem mB_0_countDown : Cond.code (⟨"PagedHart", "countDown", "(I)V"⟩ : MethodName) prog_1_method_23_code 2 none ∈ gBIG := mt2 46 rfl rfl
theorem mL_L_65 : Cond.methodLink "PagedHartLaw" 65 (⟨"PagedHartLaw", "peek", "(LPagedHart;I[J)I"⟩ : MethodName) ∈ gBIG := mt2 47 rfl rfl
theorem mS_L_peek : Cond.static (⟨"PagedHartLaw", "peek", "(LPagedHart;I[J)I"⟩ : MethodName) ∈ gBIG := mt2 48 rfl rfl
theorem mB_L_peek : Cond.codeWith (⟨"PagedHartLaw", "peek", "(LPagedHart;I[J)I"⟩ : MethodName) method_4_code 4 (some .int) [(0, 9, 12, 18)] ∈ gBIG := mt2 49 rfl rfl
theorem mK_L_18 : Cond.classLink "PagedHartLaw" 18 "java/lang/IndexOutOfBoundsException" ∈ gBIG := mt2 50 rfl rfl
theorem mL_L_15 : Cond.methodLink "PagedHartLaw" 15 (⟨"PagedHart", "peek", "(I)I"⟩ : MethodName) ∈ gBIG := mt2 51 rfl rfl
theorem mI_0_peek : Cond.instanceMethod (⟨"PagedHart", "peek", "(I)I"⟩ : MethodName) ∈ gBIG := mt2 52 rfl rfl
theorem mX_0_peek : Cond.selects "PagedHart" (⟨"PagedHart", "peek", "(I)I"⟩ : MethodName) (⟨"PagedHart", "peek", "(I)I"⟩ : MethodName) ∈ gBIG := mt2 53 rfl rfl
theorem mB_0_peek : Cond.code (⟨"PagedHart", "peek", "(I)I"⟩ : MethodName) prog_1_method_4_code 2 (some .int) ∈ gBIG := mt2 54 rfl rfl
theorem mL_0_41 : Cond.methodLink "PagedHart" 41 (⟨"PagedHart", "isWord", "(I)Z"⟩ : MethodName) ∈ gBIG := mt2 55 rfl rfl
theorem mS_0_isWord : Cond.static (⟨"PagedHart", "isWord", "(I)Z"⟩ : MethodName) ∈ gBIG := mt2 56 rfl rfl
theorem mB_0_isWord : Cond.code (⟨"PagedHart", "isWord", "(I)Z"⟩ : MethodName) prog_1_method_13_code 1 (some .boolean) ∈ gBIG := mt2 57 rfl rfl
theorem mK_0_45 : Cond.classLink "PagedHart" 45 "java/lang/IndexOutOfBoundsException" ∈ gBIG := mt2 58 rfl rfl
theorem mY_IndexOutOfBoundsException : Cond.instantiable "java/lang/IndexOutOfBoundsException" 6 ∈ gBIG := mt2 59 rfl rfl
theorem mL_0_49 : Cond.methodLink "PagedHart" 49 (⟨"java/lang/IndexOutOfBoundsException", "<init>", "(Ljava/lang/String;)V"⟩ : MethodName) ∈ gBIG := mt2 68 rfl rfl
theorem mL_L_68 : Cond.methodLink "PagedHartLaw" 68 (⟨"PagedHartLaw", "poke", "(LPagedHart;II)I"⟩ : MethodName) ∈ gBIG := mt2 74 rfl rfl
theorem mS_L_poke : Cond.static (⟨"PagedHartLaw", "poke", "(LPagedHart;II)I"⟩ : MethodName) ∈ gBIG := mt2 75 rfl rfl
theorem mB_L_poke : Cond.codeWith (⟨"PagedHartLaw", "poke", "(LPagedHart;II)I"⟩ : MethodName) method_5_code 4 (some .int) [(0, 6, 9, 18)] ∈ gBIG := mt2 76 rfl rfl
theorem mL_L_20 : Cond.methodLink "PagedHartLaw" 20 (⟨"PagedHart", "poke", "(II)V"⟩ : MethodName) ∈ gBIG := mt2 77 rfl rfl
theorem mI_0_poke : Cond.instanceMethod (⟨"PagedHart", "poke", "(II)V"⟩ : MethodName) ∈ gBIG := mt2 78 rfl rfl
theorem mX_0_poke : Cond.selects "PagedHart" (⟨"PagedHart", "poke", "(II)V"⟩ : MethodName) (⟨"PagedHart", "poke", "(II)V"⟩ : MethodName) ∈ gBIG := mt2 79 rfl rfl
theorem mB_0_poke : Cond.code (⟨"PagedHart", "poke", "(II)V"⟩ : MethodName) prog_1_method_5_code 3 none ∈ gBIG := mt2 80 rfl rfl
theorem mL_L_72 : Cond.methodLink "PagedHartLaw" 72 (⟨"PagedHartLaw", "pokeFour", "(LPagedHart;IIIII)I"⟩ : MethodName) ∈ gBIG := mt2 81 rfl rfl
theorem mS_L_pokeFour : Cond.static (⟨"PagedHartLaw", "pokeFour", "(LPagedHart;IIIII)I"⟩ : MethodName) ∈ gBIG := mt2 82 rfl rfl
theorem mB_L_pokeFour : Cond.codeWith (⟨"PagedHartLaw", "pokeFour", "(LPagedHart;IIIII)I"⟩ : MethodName) method_6_code 7 (some .int) [(0, 11, 14, 18)] ∈ gBIG := mt2 83 rfl rfl
theorem mL_L_24 : Cond.methodLink "PagedHartLaw" 24 (⟨"PagedHart", "pokeFour", "(IIIII)V"⟩ : MethodName) ∈ gBIG := mt2 84 rfl rfl
theorem mI_0_pokeFour : Cond.instanceMethod (⟨"PagedHart", "pokeFour", "(IIIII)V"⟩ : MethodName) ∈ gBIG := mt2 85 rfl rfl
theorem mX_0_pokeFour : Cond.selects "PagedHart" (⟨"PagedHart", "pokeFour", "(IIIII)V"⟩ : MethodName) (⟨"PagedHart", "pokeFour", "(IIIII)V"⟩ : MethodName) ∈ gBIG := mt2 86 rfl rfl
theorem mB_0_pokeFour : Cond.code (⟨"PagedHart", "pokeFour", "(IIIII)V"⟩ : MethodName) prog_1_method_6_code 7 none ∈ gBIG := mt2 87 rfl rfl
theorem mL_L_76 : Cond.methodLink "PagedHartLaw" 76 (⟨"PagedHartLaw", "register", "(LPagedHart;I[J)I"⟩ : MethodName) ∈ gBIG := mt2 89 rfl rfl
theorem mS_L_register : Cond.static (⟨"PagedHartLaw", "register", "(LPagedHart;I[J)I"⟩ : MethodName) ∈ gBIG := mt2 90 rfl rfl
theorem mB_L_register : Cond.codeWith (⟨"PagedHartLaw", "register", "(LPagedHart;I[J)I"⟩ : MethodName) method_7_code 4 (some .int) [(0, 9, 12, 18)] ∈ gBIG := mt2 91 rfl rfl
theorem mL_L_28 : Cond.methodLink "PagedHartLaw" 28 (⟨"PagedHart", "register", "(I)I"⟩ : MethodName) ∈ gBIG := mt2 92 rfl rfl
theorem mI_0_register : Cond.instanceMethod (⟨"PagedHart", "register", "(I)I"⟩ : MethodName) ∈ gBIG := mt2 93 rfl rfl
theorem mX_0_register : Cond.selects "PagedHart" (⟨"PagedHart", "register", "(I)I"⟩ : MethodName) (⟨"PagedHart", "register", "(I)I"⟩ : MethodName) ∈ gBIG := mt2 94 rfl rfl
theorem mB_0_register : Cond.code (⟨"PagedHart", "register", "(I)I"⟩ : MethodName) prog_1_method_7_code 2 (some .int) ∈ gBIG := mt2 95 rfl rfl
theorem mL_L_79 : Cond.methodLink "PagedHartLaw" 79 (⟨"PagedHartLaw", "setRegister", "(LPagedHart;II)I"⟩ : MethodName) ∈ gBIG := mt2 97 rfl rfl
theorem mS_L_setRegister : Cond.static (⟨"PagedHartLaw", "setRegister", "(LPagedHart;II)I"⟩ : MethodName) ∈ gBIG := mt2 98 rfl rfl
theorem mB_L_setRegister : Cond.codeWith (⟨"PagedHartLaw", "setRegister", "(LPagedHart;II)I"⟩ : MethodName) method_8_code 4 (some .int) [(0, 6, 9, 18)] ∈ gBIG := mt2 99 rfl rfl
theorem mL_L_31 : Cond.methodLink "PagedHartLaw" 31 (⟨"PagedHart", "setRegister", "(II)V"⟩ : MethodName) ∈ gBIG := mt2 100 rfl rfl
theorem mI_0_setRegister : Cond.instanceMethod (⟨"PagedHart", "setRegister", "(II)V"⟩ : MethodName) ∈ gBIG := mt2 101 rfl rfl
theorem mX_0_setRegister : Cond.selects "PagedHart" (⟨"PagedHart", "setRegister", "(II)V"⟩ : MethodName) (⟨"PagedHart", "setRegister", "(II)V"⟩ : MethodName) ∈ gBIG := mt2 102 rfl rfl
theorem mB_0_setRegister : Cond.code (⟨"PagedHart", "setRegister", "(II)V"⟩ : MethodName) prog_1_method_8_code 3 none ∈ gBIG := mt2 103 rfl rfl
theorem mL_L_82 : Cond.methodLink "PagedHartLaw" 82 (⟨"PagedHartLaw", "control", "(LPagedHart;I[J)I"⟩ : MethodName) ∈ gBIG := mt2 104 rfl rfl
theorem mS_L_control : Cond.static (⟨"PagedHartLaw", "control", "(LPagedHart;I[J)I"⟩ : MethodName) ∈ gBIG := mt2 105 rfl rfl
theorem mB_L_control : Cond.codeWith (⟨"PagedHartLaw", "control", "(LPagedHart;I[J)I"⟩ : MethodName) method_9_code 4 (some .int) [(0, 9, 12, 37)] ∈ gBIG := mt2 106 rfl rfl
theorem mK_L_37 : Cond.classLink "PagedHartLaw" 37 "java/util/NoSuchElementException" ∈ gBIG := mt2 107 rfl rfl
theorem mL_L_34 : Cond.methodLink "PagedHartLaw" 34 (⟨"PagedHart", "control", "(I)I"⟩ : MethodName) ∈ gBIG := mt2 108 rfl rfl
theorem mI_0_control : Cond.instanceMethod (⟨"PagedHart", "control", "(I)I"⟩ : MethodName) ∈ gBIG := mt2 109 rfl rfl
theorem mX_0_control : Cond.selects "PagedHart" (⟨"PagedHart", "control", "(I)I"⟩ : MethodName) (⟨"PagedHart", "control", "(I)I"⟩ : MethodName) ∈ gBIG := mt2 110 rfl rfl
theorem mB_0_control : Cond.code (⟨"PagedHart", "control", "(I)I"⟩ : MethodName) prog_1_method_9_code 3 (some .int) ∈ gBIG := mt2 111 rfl rfl
theorem mK_0_58 : Cond.classLink "PagedHart" 58 "java/util/NoSuchElementException" ∈ gBIG := mt2 112 rfl rfl
theorem mY_NoSuchElementException : Cond.instantiable "java/util/NoSuchElementException" 6 ∈ gBIG := mt2 113 rfl rfl
theorem mL_0_62 : Cond.methodLink "PagedHart" 62 (⟨"java/util/NoSuchElementException", "<init>", "(Ljava/lang/String;)V"⟩ : MethodName) ∈ gBIG := mt2 122 rfl rfl
theorem mL_L_85 : Cond.methodLink "PagedHartLaw" 85 (⟨"PagedHartLaw", "setControl", "(LPagedHart;II)I"⟩ : MethodName) ∈ gBIG := mt2 128 rfl rfl
theorem mS_L_setControl : Cond.static (⟨"PagedHartLaw", "setControl", "(LPagedHart;II)I"⟩ : MethodName) ∈ gBIG := mt2 129 rfl rfl
theorem mB_L_setControl : Cond.codeWith (⟨"PagedHartLaw", "setControl", "(LPagedHart;II)I"⟩ : MethodName) method_10_code 4 (some .int) [(0, 6, 9, 37)] ∈ gBIG := mt2 130 rfl rfl
theorem mL_L_39 : Cond.methodLink "PagedHartLaw" 39 (⟨"PagedHart", "setControl", "(II)V"⟩ : MethodName) ∈ gBIG := mt2 131 rfl rfl
theorem mI_0_setControl : Cond.instanceMethod (⟨"PagedHart", "setControl", "(II)V"⟩ : MethodName) ∈ gBIG := mt2 132 rfl rfl
theorem mX_0_setControl : Cond.selects "PagedHart" (⟨"PagedHart", "setControl", "(II)V"⟩ : MethodName) (⟨"PagedHart", "setControl", "(II)V"⟩ : MethodName) ∈ gBIG := mt2 133 rfl rfl
theorem mB_0_setControl : Cond.code (⟨"PagedHart", "setControl", "(II)V"⟩ : MethodName) prog_1_method_10_code 4 none ∈ gBIG := mt2 134 rfl rfl
theorem mL_L_88 : Cond.methodLink "PagedHartLaw" 88 (⟨"PagedHartLaw", "translate", "(LPagedHart;II[J)I"⟩ : MethodName) ∈ gBIG := mt2 135 rfl rfl
theorem mS_L_translate : Cond.static (⟨"PagedHartLaw", "translate", "(LPagedHart;II[J)I"⟩ : MethodName) ∈ gBIG := mt2 136 rfl rfl
theorem mB_L_translate : Cond.codeWith (⟨"PagedHartLaw", "translate", "(LPagedHart;II[J)I"⟩ : MethodName) method_11_code 5 (some .int) [(0, 10, 13, 13)] ∈ gBIG := mt2 137 rfl rfl
theorem mL_L_42 : Cond.methodLink "PagedHartLaw" 42 (⟨"PagedHart", "translate", "(II)I"⟩ : MethodName) ∈ gBIG := mt2 138 rfl rfl
theorem mI_0_translate : Cond.instanceMethod (⟨"PagedHart", "translate", "(II)I"⟩ : MethodName) ∈ gBIG := mt2 139 rfl rfl
theorem mX_0_translate : Cond.selects "PagedHart" (⟨"PagedHart", "translate", "(II)I"⟩ : MethodName) (⟨"PagedHart", "translate", "(II)I"⟩ : MethodName) ∈ gBIG := mt2 140 rfl rfl
theorem mB_0_translate : Cond.code (⟨"PagedHart", "translate", "(II)I"⟩ : MethodName) prog_1_method_11_code 3 (some .int) ∈ gBIG := mt2 141 rfl rfl
theorem mK_L_47 : Cond.classLink "PagedHartLaw" 47 "PagedHartModel" ∈ gBIG := mt2 143 rfl rfl
theorem mY_1 : Cond.instantiable "PagedHartModel" 18 ∈ gBIG := mt2 144 rfl rfl
theorem mL_L_49 : Cond.methodLink "PagedHartLaw" 49 (⟨"PagedHartModel", "<init>", "()V"⟩ : MethodName) ∈ gBIG := mt2 145 rfl rfl
theorem mI_1_init : Cond.instanceMethod (⟨"PagedHartModel", "<init>", "()V"⟩ : MethodName) ∈ gBIG := mt2 146 rfl rfl
theorem mB_1_init : Cond.code (⟨"PagedHartModel", "<init>", "()V"⟩ : MethodName) prog_3_method_1_code 1 none ∈ gBIG := mt2 147 rfl rfl
theorem mL_1_1 : Cond.methodLink "PagedHartModel" 1 (⟨"java/lang/Object", "<init>", "()V"⟩ : MethodName) ∈ gBIG := mt2 148 rfl rfl
theorem mC_1_7 : Cond.constant "PagedHartModel" 7 (65536) ∈ gBIG := mt2 149 rfl rfl
theorem mF_1_31 : Cond.fieldLink "PagedHartModel" 31 "PagedHartModel" "thrown" "I" ∈ gBIG := mt2 150 rfl rfl
theorem mF_1_8 : Cond.fieldLink "PagedHartModel" 8 "PagedHartModel" "memory" "[I" ∈ gBIG := mt2 151 rfl rfl
theorem mF_1_14 : Cond.fieldLink "PagedHartModel" 14 "PagedHartModel" "registers" "[I" ∈ gBIG := mt2 152 rfl rfl
theorem mF_1_75 : Cond.fieldLink "PagedHartModel" 75 "PagedHartModel" "pc" "I" ∈ gBIG := mt2 153 rfl rfl
theorem mF_1_17 : Cond.fieldLink "PagedHartModel" 17 "PagedHartModel" "mode" "I" ∈ gBIG := mt2 154 rfl rfl
theorem mF_1_50 : Cond.fieldLink "PagedHartModel" 50 "PagedHartModel" "status" "I" ∈ gBIG := mt2 155 rfl rfl
theorem mF_1_87 : Cond.fieldLink "PagedHartModel" 87 "PagedHartModel" "vector" "I" ∈ gBIG := mt2 156 rfl rfl
theorem mF_1_178 : Cond.fieldLink "PagedHartModel" 178 "PagedHartModel" "scratch" "I" ∈ gBIG := mt2 157 rfl rfl
theorem mF_1_78 : Cond.fieldLink "PagedHartModel" 78 "PagedHartModel" "back" "I" ∈ gBIG := mt2 158 rfl rfl
theorem mF_1_81 : Cond.fieldLink "PagedHartModel" 81 "PagedHartModel" "cause" "I" ∈ gBIG := mt2 159 rfl rfl
theorem mF_1_84 : Cond.fieldLink "PagedHartModel" 84 "PagedHartModel" "value" "I" ∈ gBIG := mt2 160 rfl rfl
theorem mF_1_57 : Cond.fieldLink "PagedHartModel" 57 "PagedHartModel" "tables" "I" ∈ gBIG := mt2 161 rfl rfl
theorem mF_1_21 : Cond.fieldLink "PagedHartModel" 21 "PagedHartModel" "turn" "I" ∈ gBIG := mt2 162 rfl rfl
theorem mF_1_24 : Cond.fieldLink "PagedHartModel" 24 "PagedHartModel" "work" "I" ∈ gBIG := mt2 163 rfl rfl
theorem mF_1_27 : Cond.fieldLink "PagedHartModel" 27 "PagedHartModel" "ended" "Z" ∈ gBIG := mt2 164 rfl rfl
theorem mF_1_90 : Cond.fieldLink "PagedHartModel" 90 "PagedHartModel" "trapped" "Z" ∈ gBIG := mt2 165 rfl rfl
theorem mF_1_105 : Cond.fieldLink "PagedHartModel" 105 "PagedHartModel" "next" "I" ∈ gBIG := mt2 166 rfl rfl
theorem mF_1_54 : Cond.fieldLink "PagedHartModel" 54 "PagedHartModel" "fault" "I" ∈ gBIG := mt2 167 rfl rfl
theorem mL_L_56 : Cond.methodLink "PagedHartLaw" 56 (⟨"PagedHartModel", "thrown", "()I"⟩ : MethodName) ∈ gBIG := mt2 205 rfl rfl
theorem mI_1_thrown : Cond.instanceMethod (⟨"PagedHartModel", "thrown", "()I"⟩ : MethodName) ∈ gBIG := mt2 206 rfl rfl
theorem mX_1_thrown : Cond.selects "PagedHartModel" (⟨"PagedHartModel", "thrown", "()I"⟩ : MethodName) (⟨"PagedHartModel", "thrown", "()I"⟩ : MethodName) ∈ gBIG := mt2 207 rfl rfl
theorem mB_1_thrown : Cond.code (⟨"PagedHartModel", "thrown", "()I"⟩ : MethodName) prog_3_method_2_code 1 (some .int) ∈ gBIG := mt2 208 rfl rfl
theorem mL_L_55 : Cond.methodLink "PagedHartLaw" 55 (⟨"PagedHartModel", "run", "(I)I"⟩ : MethodName) ∈ gBIG := mt2 209 rfl rfl
theorem mI_1_run : Cond.instanceMethod (⟨"PagedHartModel", "run", "(I)I"⟩ : MethodName) ∈ gBIG := mt2 210 rfl rfl
theorem mX_1_run : Cond.selects "PagedHartModel" (⟨"PagedHartModel", "run", "(I)I"⟩ : MethodName) (⟨"PagedHartModel", "run", "(I)I"⟩ : MethodName) ∈ gBIG := mt2 211 rfl rfl
theorem mB_1_run : Cond.code (⟨"PagedHartModel", "run", "(I)I"⟩ : MethodName) prog_3_method_34_code 3 (some .int) ∈ gBIG := mt2 212 rfl rfl
theorem mL_1_182 : Cond.methodLink "PagedHartModel" 182 (⟨"PagedHartModel", "step", "()V"⟩ : MethodName) ∈ gBIG := mt2 213 rfl rfl
theorem mI_1_step : Cond.instanceMethod (⟨"PagedHartModel", "step", "()V"⟩ : MethodName) ∈ gBIG := mt2 215 rfl rfl
theorem mB_1_step : Cond.code (⟨"PagedHartModel", "step", "()V"⟩ : MethodName) prog_3_method_14_code 4 none ∈ gBIG := mt2 216 rfl rfl
theorem mL_1_93 : Cond.methodLink "PagedHartModel" 93 (⟨"PagedHartModel", "trap", "(II)V"⟩ : MethodName) ∈ gBIG := mt2 217 rfl rfl
theorem mI_1_trap : Cond.instanceMethod (⟨"PagedHartModel", "trap", "(II)V"⟩ : MethodName) ∈ gBIG := mt2 219 rfl rfl
theorem mB_1_trap : Cond.code (⟨"PagedHartModel", "trap", "(II)V"⟩ : MethodName) prog_3_method_11_code 3 none ∈ gBIG := mt2 220 rfl rfl
theorem mL_1_46 : Cond.methodLink "PagedHartModel" 46 (⟨"PagedHartModel", "bits", "(III)I"⟩ : MethodName) ∈ gBIG := mt2 221 rfl rfl
theorem mS_1_bits : Cond.static (⟨"PagedHartModel", "bits", "(III)I"⟩ : MethodName) ∈ gBIG := mt2 222 rfl rfl
theorem mB_1_bits : Cond.code (⟨"PagedHartModel", "bits", "(III)I"⟩ : MethodName) prog_3_method_4_code 3 (some .int) ∈ gBIG := mt2 223 rfl rfl
theorem mL_1_36 : Cond.methodLink "PagedHartModel" 36 (⟨"PagedHartModel", "plain", "(I)J"⟩ : MethodName) ∈ gBIG := mt2 224 rfl rfl
theorem mS_1_plain : Cond.static (⟨"PagedHartModel", "plain", "(I)J"⟩ : MethodName) ∈ gBIG := mt2 225 rfl rfl
theorem mB_1_plain : Cond.code (⟨"PagedHartModel", "plain", "(I)J"⟩ : MethodName) prog_3_method_3_code 1 (some .long) ∈ gBIG := mt2 226 rfl rfl
theorem mC_1_34 : Cond.constantLong "PagedHartModel" 34 (4294967295) ∈ gBIG := mt2 227 rfl rfl
theorem mC_1_53 : Cond.constant "PagedHartModel" 53 (262144) ∈ gBIG := mt2 228 rfl rfl
theorem mC_1_101 : Cond.constant "PagedHartModel" 101 (-2147483643) ∈ gBIG := mt2 229 rfl rfl
theorem mL_1_102 : Cond.methodLink "PagedHartModel" 102 (⟨"PagedHartModel", "reach", "(III)I"⟩ : MethodName) ∈ gBIG := mt2 230 rfl rfl
theorem mI_1_reach : Cond.instanceMethod (⟨"PagedHartModel", "reach", "(III)I"⟩ : MethodName) ∈ gBIG := mt2 232 rfl rfl
theorem mB_1_reach : Cond.code (⟨"PagedHartModel", "reach", "(III)I"⟩ : MethodName) prog_3_method_12_code 5 (some .int) ∈ gBIG := mt2 233 rfl rfl
theorem mL_1_97 : Cond.methodLink "PagedHartModel" 97 (⟨"PagedHartModel", "translated", "(II)I"⟩ : MethodName) ∈ gBIG := mt2 234 rfl rfl
theorem mI_1_translated : Cond.instanceMethod (⟨"PagedHartModel", "translated", "(II)I"⟩ : MethodName) ∈ gBIG := mt2 236 rfl rfl
theorem mB_1_translated : Cond.code (⟨"PagedHartModel", "translated", "(II)I"⟩ : MethodName) prog_3_method_10_code 7 (some .int) ∈ gBIG := mt2 237 rfl rfl
theorem mL_1_42 : Cond.methodLink "PagedHartModel" 42 (⟨"PagedHartModel", "has", "(II)Z"⟩ : MethodName) ∈ gBIG := mt2 238 rfl rfl
theorem mS_1_has : Cond.static (⟨"PagedHartModel", "has", "(II)Z"⟩ : MethodName) ∈ gBIG := mt2 239 rfl rfl
theorem mB_1_has : Cond.code (⟨"PagedHartModel", "has", "(II)Z"⟩ : MethodName) prog_3_method_5_code 2 (some .boolean) ∈ gBIG := mt3 0 rfl rfl
theorem mL_1_60 : Cond.methodLink "PagedHartModel" 60 (⟨"PagedHartModel", "isWord", "(I)Z"⟩ : MethodName) ∈ gBIG := mt3 1 rfl rfl
theorem mS_1_isWord : Cond.static (⟨"PagedHartModel", "isWord", "(I)Z"⟩ : MethodName) ∈ gBIG := mt3 2 rfl rfl
theorem mB_1_isWord : Cond.code (⟨"PagedHartModel", "isWord", "(I)Z"⟩ : MethodName) prog_3_method_6_code 1 (some .boolean) ∈ gBIG := mt3 3 rfl rfl
theorem mC_1_40 : Cond.constantLong "PagedHartModel" 40 (262144) ∈ gBIG := mt3 4 rfl rfl
theorem mL_1_64 : Cond.methodLink "PagedHartModel" 64 (⟨"PagedHartModel", "accessCause", "(I)I"⟩ : MethodName) ∈ gBIG := mt3 5 rfl rfl
theorem mS_1_accessCause : Cond.static (⟨"PagedHartModel", "accessCause", "(I)I"⟩ : MethodName) ∈ gBIG := mt3 6 rfl rfl
theorem mB_1_accessCause : Cond.code (⟨"PagedHartModel", "accessCause", "(I)I"⟩ : MethodName) prog_3_method_8_code 1 (some .int) ∈ gBIG := mt3 7 rfl rfl
theorem mL_1_68 : Cond.methodLink "PagedHartModel" 68 (⟨"PagedHartModel", "lets", "(IIZ)Z"⟩ : MethodName) ∈ gBIG := mt3 8 rfl rfl
theorem mI_1_lets : Cond.instanceMethod (⟨"PagedHartModel", "lets", "(IIZ)Z"⟩ : MethodName) ∈ gBIG := mt3 10 rfl rfl
theorem mB_1_lets : Cond.code (⟨"PagedHartModel", "lets", "(IIZ)Z"⟩ : MethodName) prog_3_method_9_code 5 (some .boolean) ∈ gBIG := mt3 11 rfl rfl
theorem mL_1_72 : Cond.methodLink "PagedHartModel" 72 (⟨"PagedHartModel", "pageCause", "(I)I"⟩ : MethodName) ∈ gBIG := mt3 12 rfl rfl
theorem mS_1_pageCause : Cond.static (⟨"PagedHartModel", "pageCause", "(I)I"⟩ : MethodName) ∈ gBIG := mt3 13 rfl rfl
theorem mB_1_pageCause : Cond.code (⟨"PagedHartModel", "pageCause", "(I)I"⟩ : MethodName) prog_3_method_7_code 1 (some .int) ∈ gBIG := mt3 14 rfl rfl
theorem mL_1_108 : Cond.methodLink "PagedHartModel" 108 (⟨"PagedHartModel", "perform", "(I)V"⟩ : MethodName) ∈ gBIG := mt3 15 rfl rfl
theorem mI_1_perform : Cond.instanceMethod (⟨"PagedHartModel", "perform", "(I)V"⟩ : MethodName) ∈ gBIG := mt3 17 rfl rfl
theorem mB_1_perform : Cond.code (⟨"PagedHartModel", "perform", "(I)V"⟩ : MethodName) prog_3_method_15_code 8 none ∈ gBIG := mt3 18 rfl rfl
theorem mL_1_112 : Cond.methodLink "PagedHartModel" 112 (⟨"PagedHartModel", "set", "(II)V"⟩ : MethodName) ∈ gBIG := mt3 19 rfl rfl
theorem mI_1_set : Cond.instanceMethod (⟨"PagedHartModel", "set", "(II)V"⟩ : MethodName) ∈ gBIG := mt3 21 rfl rfl
theorem mB_1_set : Cond.code (⟨"PagedHartModel", "set", "(II)V"⟩ : MethodName) prog_3_method_13_code 3 none ∈ gBIG := mt3 22 rfl rfl
theorem mL_1_115 : Cond.methodLink "PagedHartModel" 115 (⟨"PagedHartModel", "far", "(I)I"⟩ : MethodName) ∈ gBIG := mt3 23 rfl rfl
theorem mS_1_far : Cond.static (⟨"PagedHartModel", "far", "(I)I"⟩ : MethodName) ∈ gBIG := mt3 24 rfl rfl
theorem mB_1_far : Cond.code (⟨"PagedHartModel", "far", "(I)I"⟩ : MethodName) prog_3_method_16_code 1 (some .int) ∈ gBIG := mt3 25 rfl rfl
theorem mC_1_141 : Cond.constant "PagedHartModel" 141 (1048576) ∈ gBIG := mt3 26 rfl rfl
theorem mL_1_118 : Cond.methodLink "PagedHartModel" 118 (⟨"PagedHartModel", "jump", "(II)V"⟩ : MethodName) ∈ gBIG := mt3 27 rfl rfl
theorem mI_1_jump : Cond.instanceMethod (⟨"PagedHartModel", "jump", "(II)V"⟩ : MethodName) ∈ gBIG := mt3 29 rfl rfl
theorem mB_1_jump : Cond.code (⟨"PagedHartModel", "jump", "(II)V"⟩ : MethodName) prog_3_method_18_code 3 none ∈ gBIG := mt3 30 rfl rfl
theorem mL_1_121 : Cond.methodLink "PagedHartModel" 121 (⟨"PagedHartModel", "branch", "(IIII)V"⟩ : MethodName) ∈ gBIG := mt3 31 rfl rfl
theorem mI_1_branch : Cond.instanceMethod (⟨"PagedHartModel", "branch", "(IIII)V"⟩ : MethodName) ∈ gBIG := mt3 33 rfl rfl
theorem mB_1_branch : Cond.code (⟨"PagedHartModel", "branch", "(IIII)V"⟩ : MethodName) prog_3_method_19_code 6 none ∈ gBIG := mt3 34 rfl rfl
theorem mL_1_142 : Cond.methodLink "PagedHartModel" 142 (⟨"PagedHartModel", "near", "(I)I"⟩ : MethodName) ∈ gBIG := mt3 35 rfl rfl
theorem mS_1_near : Cond.static (⟨"PagedHartModel", "near", "(I)I"⟩ : MethodName) ∈ gBIG := mt3 36 rfl rfl
theorem mB_1_near : Cond.code (⟨"PagedHartModel", "near", "(I)I"⟩ : MethodName) prog_3_method_17_code 1 (some .int) ∈ gBIG := mt3 37 rfl rfl
theorem mL_1_125 : Cond.methodLink "PagedHartModel" 125 (⟨"PagedHartModel", "load", "(IIII)V"⟩ : MethodName) ∈ gBIG := mt3 38 rfl rfl
theorem mI_1_load : Cond.instanceMethod (⟨"PagedHartModel", "load", "(IIII)V"⟩ : MethodName) ∈ gBIG := mt3 40 rfl rfl
theorem mB_1_load : Cond.code (⟨"PagedHartModel", "load", "(IIII)V"⟩ : MethodName) prog_3_method_20_code 10 none ∈ gBIG := mt3 41 rfl rfl
theorem mL_1_128 : Cond.methodLink "PagedHartModel" 128 (⟨"PagedHartModel", "store", "(IIII)V"⟩ : MethodName) ∈ gBIG := mt3 42 rfl rfl
theorem mI_1_store : Cond.instanceMethod (⟨"PagedHartModel", "store", "(IIII)V"⟩ : MethodName) ∈ gBIG := mt3 44 rfl rfl
theorem mB_1_store : Cond.code (⟨"PagedHartModel", "store", "(IIII)V"⟩ : MethodName) prog_3_method_21_code 12 none ∈ gBIG := mt3 45 rfl rfl
theorem mL_1_131 : Cond.methodLink "PagedHartModel" 131 (⟨"PagedHartModel", "withNumber", "(IIIII)V"⟩ : MethodName) ∈ gBIG := mt3 46 rfl rfl
theorem mI_1_withNumber : Cond.instanceMethod (⟨"PagedHartModel", "withNumber", "(IIIII)V"⟩ : MethodName) ∈ gBIG := mt3 48 rfl rfl
theorem mB_1_withNumber : Cond.code (⟨"PagedHartModel", "withNumber", "(IIIII)V"⟩ : MethodName) prog_3_method_25_code 8 none ∈ gBIG := mt3 49 rfl rfl
theorem mL_1_145 : Cond.methodLink "PagedHartModel" 145 (⟨"PagedHartModel", "power", "(I)I"⟩ : MethodName) ∈ gBIG := mt3 50 rfl rfl
theorem mS_1_power : Cond.static (⟨"PagedHartModel", "power", "(I)I"⟩ : MethodName) ∈ gBIG := mt3 51 rfl rfl
theorem mB_1_power : Cond.code (⟨"PagedHartModel", "power", "(I)I"⟩ : MethodName) prog_3_method_22_code 1 (some .int) ∈ gBIG := mt3 52 rfl rfl
theorem mL_1_148 : Cond.methodLink "PagedHartModel" 148 (⟨"PagedHartModel", "right", "(IIZ)I"⟩ : MethodName) ∈ gBIG := mt3 53 rfl rfl
theorem mS_1_right : Cond.static (⟨"PagedHartModel", "right", "(IIZ)I"⟩ : MethodName) ∈ gBIG := mt3 54 rfl rfl
theorem mB_1_right : Cond.code (⟨"PagedHartModel", "right", "(IIZ)I"⟩ : MethodName) prog_3_method_23_code 5 (some .int) ∈ gBIG := mt3 55 rfl rfl
theorem mL_1_152 : Cond.methodLink "PagedHartModel" 152 (⟨"PagedHartModel", "simple", "(III)I"⟩ : MethodName) ∈ gBIG := mt3 56 rfl rfl
theorem mS_1_simple : Cond.static (⟨"PagedHartModel", "simple", "(III)I"⟩ : MethodName) ∈ gBIG := mt3 57 rfl rfl
theorem mB_1_simple : Cond.code (⟨"PagedHartModel", "simple", "(III)I"⟩ : MethodName) prog_3_method_24_code 3 (some .int) ∈ gBIG := mt3 58 rfl rfl
theorem mL_1_135 : Cond.methodLink "PagedHartModel" 135 (⟨"PagedHartModel", "withTwo", "(IIIII)V"⟩ : MethodName) ∈ gBIG := mt3 59 rfl rfl
theorem mI_1_withTwo : Cond.instanceMethod (⟨"PagedHartModel", "withTwo", "(IIIII)V"⟩ : MethodName) ∈ gBIG := mt3 61 rfl rfl
theorem mB_1_withTwo : Cond.code (⟨"PagedHartModel", "withTwo", "(IIIII)V"⟩ : MethodName) prog_3_method_26_code 8 none ∈ gBIG := mt3 62 rfl rfl
theorem mL_1_155 : Cond.methodLink "PagedHartModel" 155 (⟨"PagedHartModel", "product", "(III)I"⟩ : MethodName) ∈ gBIG := mt3 63 rfl rfl
theorem mS_1_product : Cond.static (⟨"PagedHartModel", "product", "(III)I"⟩ : MethodName) ∈ gBIG := mt3 64 rfl rfl
theorem mB_1_product : Cond.code (⟨"PagedHartModel", "product", "(III)I"⟩ : MethodName) prog_3_method_27_code 14 (some .int) ∈ gBIG := mt3 65 rfl rfl
theorem mC_1_161 : Cond.constantLong "PagedHartModel" 161 (65535) ∈ gBIG := mt3 66 rfl rfl
theorem mL_1_158 : Cond.methodLink "PagedHartModel" 158 (⟨"PagedHartModel", "quotient", "(III)I"⟩ : MethodName) ∈ gBIG := mt3 67 rfl rfl
theorem mS_1_quotient : Cond.static (⟨"PagedHartModel", "quotient", "(III)I"⟩ : MethodName) ∈ gBIG := mt3 68 rfl rfl
theorem mB_1_quotient : Cond.code (⟨"PagedHartModel", "quotient", "(III)I"⟩ : MethodName) prog_3_method_28_code 8 (some .int) ∈ gBIG := mt3 69 rfl rfl
theorem mL_1_138 : Cond.methodLink "PagedHartModel" 138 (⟨"PagedHartModel", "system", "(IIII)V"⟩ : MethodName) ∈ gBIG := mt3 70 rfl rfl
theorem mI_1_system : Cond.instanceMethod (⟨"PagedHartModel", "system", "(IIII)V"⟩ : MethodName) ∈ gBIG := mt3 72 rfl rfl
theorem mB_1_system : Cond.code (⟨"PagedHartModel", "system", "(IIII)V"⟩ : MethodName) prog_3_method_29_code 6 none ∈ gBIG := mt3 73 rfl rfl
theorem mC_1_163 : Cond.constant "PagedHartModel" 163 (1048691) ∈ gBIG := mt3 74 rfl rfl
theorem mC_1_164 : Cond.constant "PagedHartModel" 164 (270532723) ∈ gBIG := mt3 75 rfl rfl
theorem mC_1_165 : Cond.constant "PagedHartModel" 165 (273678451) ∈ gBIG := mt3 76 rfl rfl
theorem mL_1_166 : Cond.methodLink "PagedHartModel" 166 (⟨"PagedHartModel", "exchange", "(IIII)V"⟩ : MethodName) ∈ gBIG := mt3 77 rfl rfl
theorem mI_1_exchange : Cond.instanceMethod (⟨"PagedHartModel", "exchange", "(IIII)V"⟩ : MethodName) ∈ gBIG := mt3 79 rfl rfl
theorem mB_1_exchange : Cond.code (⟨"PagedHartModel", "exchange", "(IIII)V"⟩ : MethodName) prog_3_method_30_code 10 none ∈ gBIG := mt3 80 rfl rfl
theorem mL_1_169 : Cond.methodLink "PagedHartModel" 169 (⟨"PagedHartModel", "isControl", "(I)Z"⟩ : MethodName) ∈ gBIG := mt3 81 rfl rfl
theorem mS_1_isControl : Cond.static (⟨"PagedHartModel", "isControl", "(I)Z"⟩ : MethodName) ∈ gBIG := mt3 82 rfl rfl
theorem mB_1_isControl : Cond.code (⟨"PagedHartModel", "isControl", "(I)Z"⟩ : MethodName) prog_3_method_31_code 1 (some .boolean) ∈ gBIG := mt3 83 rfl rfl
theorem mL_1_172 : Cond.methodLink "PagedHartModel" 172 (⟨"PagedHartModel", "controlOf", "(I)I"⟩ : MethodName) ∈ gBIG := mt3 84 rfl rfl
theorem mI_1_controlOf : Cond.instanceMethod (⟨"PagedHartModel", "controlOf", "(I)I"⟩ : MethodName) ∈ gBIG := mt3 86 rfl rfl
theorem mB_1_controlOf : Cond.code (⟨"PagedHartModel", "controlOf", "(I)I"⟩ : MethodName) prog_3_method_32_code 2 (some .int) ∈ gBIG := mt3 87 rfl rfl
theorem mL_1_175 : Cond.methodLink "PagedHartModel" 175 (⟨"PagedHartModel", "putControl", "(II)V"⟩ : MethodName) ∈ gBIG := mt3 88 rfl rfl
theorem mI_1_putControl : Cond.instanceMethod (⟨"PagedHartModel", "putControl", "(II)V"⟩ : MethodName) ∈ gBIG := mt3 90 rfl rfl
theorem mB_1_putControl : Cond.code (⟨"PagedHartModel", "putControl", "(II)V"⟩ : MethodName) prog_3_method_33_code 3 none ∈ gBIG := mt3 91 rfl rfl
theorem mC_1_181 : Cond.constant "PagedHartModel" 181 (262400) ∈ gBIG := mt3 92 rfl rfl
theorem mL_L_64 : Cond.methodLink "PagedHartLaw" 64 (⟨"PagedHartModel", "called", "()Z"⟩ : MethodName) ∈ gBIG := mt3 93 rfl rfl
theorem mI_1_called : Cond.instanceMethod (⟨"PagedHartModel", "called", "()Z"⟩ : MethodName) ∈ gBIG := mt3 94 rfl rfl
theorem mX_1_called : Cond.selects "PagedHartModel" (⟨"PagedHartModel", "called", "()Z"⟩ : MethodName) (⟨"PagedHartModel", "called", "()Z"⟩ : MethodName) ∈ gBIG := mt3 95 rfl rfl
theorem mB_1_called : Cond.code (⟨"PagedHartModel", "called", "()Z"⟩ : MethodName) prog_3_method_35_code 1 (some .boolean) ∈ gBIG := mt3 96 rfl rfl
theorem mL_L_67 : Cond.methodLink "PagedHartLaw" 67 (⟨"PagedHartModel", "peek", "(I)I"⟩ : MethodName) ∈ gBIG := mt3 97 rfl rfl
theorem mI_1_peek : Cond.instanceMethod (⟨"PagedHartModel", "peek", "(I)I"⟩ : MethodName) ∈ gBIG := mt3 98 rfl rfl
theorem mX_1_peek : Cond.selects "PagedHartModel" (⟨"PagedHartModel", "peek", "(I)I"⟩ : MethodName) (⟨"PagedHartModel", "peek", "(I)I"⟩ : MethodName) ∈ gBIG := mt3 99 rfl rfl
theorem mB_1_peek : Cond.code (⟨"PagedHartModel", "peek", "(I)I"⟩ : MethodName) prog_3_method_37_code 2 (some .int) ∈ gBIG := mt3 100 rfl rfl
theorem mL_1_185 : Cond.methodLink "PagedHartModel" 185 (⟨"PagedHartModel", "isPlace", "(I)Z"⟩ : MethodName) ∈ gBIG := mt3 101 rfl rfl
theorem mS_1_isPlace : Cond.static (⟨"PagedHartModel", "isPlace", "(I)Z"⟩ : MethodName) ∈ gBIG := mt3 102 rfl rfl
theorem mB_1_isPlace : Cond.code (⟨"PagedHartModel", "isPlace", "(I)Z"⟩ : MethodName) prog_3_method_36_code 1 (some .boolean) ∈ gBIG := mt3 103 rfl rfl
theorem mL_L_71 : Cond.methodLink "PagedHartLaw" 71 (⟨"PagedHartModel", "poke", "(II)V"⟩ : MethodName) ∈ gBIG := mt3 104 rfl rfl
theorem mI_1_poke : Cond.instanceMethod (⟨"PagedHartModel", "poke", "(II)V"⟩ : MethodName) ∈ gBIG := mt3 105 rfl rfl
theorem mX_1_poke : Cond.selects "PagedHartModel" (⟨"PagedHartModel", "poke", "(II)V"⟩ : MethodName) (⟨"PagedHartModel", "poke", "(II)V"⟩ : MethodName) ∈ gBIG := mt3 106 rfl rfl
theorem mB_1_poke : Cond.code (⟨"PagedHartModel", "poke", "(II)V"⟩ : MethodName) prog_3_method_38_code 3 none ∈ gBIG := mt3 107 rfl rfl
theorem mL_L_75 : Cond.methodLink "PagedHartLaw" 75 (⟨"PagedHartModel", "pokeFour", "(IIIII)V"⟩ : MethodName) ∈ gBIG := mt3 108 rfl rfl
theorem mI_1_pokeFour : Cond.instanceMethod (⟨"PagedHartModel", "pokeFour", "(IIIII)V"⟩ : MethodName) ∈ gBIG := mt3 109 rfl rfl
theorem mX_1_pokeFour : Cond.selects "PagedHartModel" (⟨"PagedHartModel", "pokeFour", "(IIIII)V"⟩ : MethodName) (⟨"PagedHartModel", "pokeFour", "(IIIII)V"⟩ : MethodName) ∈ gBIG := mt3 110 rfl rfl
theorem mB_1_pokeFour : Cond.code (⟨"PagedHartModel", "pokeFour", "(IIIII)V"⟩ : MethodName) prog_3_method_39_code 6 none ∈ gBIG := mt3 111 rfl rfl
theorem mC_1_188 : Cond.constant "PagedHartModel" 188 (262128) ∈ gBIG := mt3 112 rfl rfl
theorem mL_L_78 : Cond.methodLink "PagedHartLaw" 78 (⟨"PagedHartModel", "register", "(I)I"⟩ : MethodName) ∈ gBIG := mt3 113 rfl rfl
theorem mI_1_register : Cond.instanceMethod (⟨"PagedHartModel", "register", "(I)I"⟩ : MethodName) ∈ gBIG := mt3 114 rfl rfl
theorem mX_1_register : Cond.selects "PagedHartModel" (⟨"PagedHartModel", "register", "(I)I"⟩ : MethodName) (⟨"PagedHartModel", "register", "(I)I"⟩ : MethodName) ∈ gBIG := mt3 115 rfl rfl
theorem mB_1_register : Cond.code (⟨"PagedHartModel", "register", "(I)I"⟩ : MethodName) prog_3_method_40_code 2 (some .int) ∈ gBIG := mt3 116 rfl rfl
theorem mL_L_81 : Cond.methodLink "PagedHartLaw" 81 (⟨"PagedHartModel", "setRegister", "(II)V"⟩ : MethodName) ∈ gBIG := mt3 117 rfl rfl
theorem mI_1_setRegister : Cond.instanceMethod (⟨"PagedHartModel", "setRegister", "(II)V"⟩ : MethodName) ∈ gBIG := mt3 118 rfl rfl
theorem mX_1_setRegister : Cond.selects "PagedHartModel" (⟨"PagedHartModel", "setRegister", "(II)V"⟩ : MethodName) (⟨"PagedHartModel", "setRegister", "(II)V"⟩ : MethodName) ∈ gBIG := mt3 119 rfl rfl
theorem mB_1_setRegister : Cond.code (⟨"PagedHartModel", "setRegister", "(II)V"⟩ : MethodName) prog_3_method_41_code 3 none ∈ gBIG := mt3 120 rfl rfl
theorem mL_L_84 : Cond.methodLink "PagedHartLaw" 84 (⟨"PagedHartModel", "control", "(I)I"⟩ : MethodName) ∈ gBIG := mt3 121 rfl rfl
theorem mI_1_control : Cond.instanceMethod (⟨"PagedHartModel", "control", "(I)I"⟩ : MethodName) ∈ gBIG := mt3 122 rfl rfl
theorem mX_1_control : Cond.selects "PagedHartModel" (⟨"PagedHartModel", "control", "(I)I"⟩ : MethodName) (⟨"PagedHartModel", "control", "(I)I"⟩ : MethodName) ∈ gBIG := mt3 123 rfl rfl
theorem mB_1_control : Cond.code (⟨"PagedHartModel", "control", "(I)I"⟩ : MethodName) prog_3_method_42_code 2 (some .int) ∈ gBIG := mt3 124 rfl rfl
theorem mL_L_87 : Cond.methodLink "PagedHartLaw" 87 (⟨"PagedHartModel", "setControl", "(II)V"⟩ : MethodName) ∈ gBIG := mt3 125 rfl rfl
theorem mI_1_setControl : Cond.instanceMethod (⟨"PagedHartModel", "setControl", "(II)V"⟩ : MethodName) ∈ gBIG := mt3 126 rfl rfl
theorem mX_1_setControl : Cond.selects "PagedHartModel" (⟨"PagedHartModel", "setControl", "(II)V"⟩ : MethodName) (⟨"PagedHartModel", "setControl", "(II)V"⟩ : MethodName) ∈ gBIG := mt3 127 rfl rfl
theorem mB_1_setControl : Cond.code (⟨"PagedHartModel", "setControl", "(II)V"⟩ : MethodName) prog_3_method_43_code 3 none ∈ gBIG := mt3 128 rfl rfl
theorem mL_L_91 : Cond.methodLink "PagedHartLaw" 91 (⟨"PagedHartModel", "translate", "(II)I"⟩ : MethodName) ∈ gBIG := mt3 129 rfl rfl
theorem mI_1_translate : Cond.instanceMethod (⟨"PagedHartModel", "translate", "(II)I"⟩ : MethodName) ∈ gBIG := mt3 130 rfl rfl
theorem mX_1_translate : Cond.selects "PagedHartModel" (⟨"PagedHartModel", "translate", "(II)I"⟩ : MethodName) (⟨"PagedHartModel", "translate", "(II)I"⟩ : MethodName) ∈ gBIG := mt3 131 rfl rfl
theorem mB_1_translate : Cond.code (⟨"PagedHartModel", "translate", "(II)I"⟩ : MethodName) prog_3_method_44_code 4 (some .int) ∈ gBIG := mt3 132 rfl rfl
theorem mA_long : Cond.arrayClass .long ∈ gBIG := mt3 133 rfl rfl
theorem mX_0_step : Cond.selects "PagedHart" (⟨"PagedHart", "step", "()V"⟩ : MethodName) (⟨"PagedHart", "step", "()V"⟩ : MethodName) ∈ gBIG := ms 1 rfl rfl
theorem mX_0_trap : Cond.selects "PagedHart" (⟨"PagedHart", "trap", "(II)Z"⟩ : MethodName) (⟨"PagedHart", "trap", "(II)Z"⟩ : MethodName) ∈ gBIG := ms 2 rfl rfl
theorem mX_0_locateAligned : Cond.selects "PagedHart" (⟨"PagedHart", "locateAligned", "(III)I"⟩ : MethodName) (⟨"PagedHart", "locateAligned", "(III)I"⟩ : MethodName) ∈ gBIG := ms 3 rfl rfl
theorem mX_0_locate : Cond.selects "PagedHart" (⟨"PagedHart", "locate", "(II)I"⟩ : MethodName) (⟨"PagedHart", "locate", "(II)I"⟩ : MethodName) ∈ gBIG := ms 4 rfl rfl
theorem mX_0_permits : Cond.selects "PagedHart" (⟨"PagedHart", "permits", "(II)Z"⟩ : MethodName) (⟨"PagedHart", "permits", "(II)Z"⟩ : MethodName) ∈ gBIG := ms 5 rfl rfl
theorem mX_0_perform : Cond.selects "PagedHart" (⟨"PagedHart", "perform", "(I)Z"⟩ : MethodName) (⟨"PagedHart", "perform", "(I)Z"⟩ : MethodName) ∈ gBIG := ms 6 rfl rfl
theorem mX_0_goOnWith : Cond.selects "PagedHart" (⟨"PagedHart", "goOnWith", "(II)Z"⟩ : MethodName) (⟨"PagedHart", "goOnWith", "(II)Z"⟩ : MethodName) ∈ gBIG := ms 7 rfl rfl
theorem mX_0_writeD : Cond.selects "PagedHart" (⟨"PagedHart", "writeD", "(II)V"⟩ : MethodName) (⟨"PagedHart", "writeD", "(II)V"⟩ : MethodName) ∈ gBIG := ms 8 rfl rfl
theorem mX_0_goOn : Cond.selects "PagedHart" (⟨"PagedHart", "goOn", "()Z"⟩ : MethodName) (⟨"PagedHart", "goOn", "()Z"⟩ : MethodName) ∈ gBIG := ms 9 rfl rfl
theorem mX_0_jump : Cond.selects "PagedHart" (⟨"PagedHart", "jump", "(II)Z"⟩ : MethodName) (⟨"PagedHart", "jump", "(II)Z"⟩ : MethodName) ∈ gBIG := ms 10 rfl rfl
theorem mX_0_aOf : Cond.selects "PagedHart" (⟨"PagedHart", "aOf", "(I)I"⟩ : MethodName) (⟨"PagedHart", "aOf", "(I)I"⟩ : MethodName) ∈ gBIG := ms 11 rfl rfl
theorem mX_0_refuse : Cond.selects "PagedHart" (⟨"PagedHart", "refuse", "(I)Z"⟩ : MethodName) (⟨"PagedHart", "refuse", "(I)Z"⟩ : MethodName) ∈ gBIG := ms 12 rfl rfl
theorem mX_0_branch : Cond.selects "PagedHart" (⟨"PagedHart", "branch", "(I)Z"⟩ : MethodName) (⟨"PagedHart", "branch", "(I)Z"⟩ : MethodName) ∈ gBIG := ms 13 rfl rfl
theorem mX_0_bOf : Cond.selects "PagedHart" (⟨"PagedHart", "bOf", "(I)I"⟩ : MethodName) (⟨"PagedHart", "bOf", "(I)I"⟩ : MethodName) ∈ gBIG := ms 14 rfl rfl
theorem mX_0_load : Cond.selects "PagedHart" (⟨"PagedHart", "load", "(I)Z"⟩ : MethodName) (⟨"PagedHart", "load", "(I)Z"⟩ : MethodName) ∈ gBIG := ms 15 rfl rfl
theorem mX_0_store : Cond.selects "PagedHart" (⟨"PagedHart", "store", "(I)Z"⟩ : MethodName) (⟨"PagedHart", "store", "(I)Z"⟩ : MethodName) ∈ gBIG := ms 16 rfl rfl
theorem mX_0_calculateWithNumber : Cond.selects "PagedHart" (⟨"PagedHart", "calculateWithNumber", "(I)Z"⟩ : MethodName) (⟨"PagedHart", "calculateWithNumber", "(I)Z"⟩ : MethodName) ∈ gBIG := ms 17 rfl rfl
theorem mX_0_calculateWithRegister : Cond.selects "PagedHart" (⟨"PagedHart", "calculateWithRegister", "(I)Z"⟩ : MethodName) (⟨"PagedHart", "calculateWithRegister", "(I)Z"⟩ : MethodName) ∈ gBIG := ms 18 rfl rfl
theorem mX_0_performSystem : Cond.selects "PagedHart" (⟨"PagedHart", "performSystem", "(I)Z"⟩ : MethodName) (⟨"PagedHart", "performSystem", "(I)Z"⟩ : MethodName) ∈ gBIG := ms 19 rfl rfl
theorem mX_0_call : Cond.selects "PagedHart" (⟨"PagedHart", "call", "()Z"⟩ : MethodName) (⟨"PagedHart", "call", "()Z"⟩ : MethodName) ∈ gBIG := ms 20 rfl rfl
theorem mX_0_changeControl : Cond.selects "PagedHart" (⟨"PagedHart", "changeControl", "(I)Z"⟩ : MethodName) (⟨"PagedHart", "changeControl", "(I)Z"⟩ : MethodName) ∈ gBIG := ms 21 rfl rfl
theorem mX_0_returnFromTrap : Cond.selects "PagedHart" (⟨"PagedHart", "returnFromTrap", "()Z"⟩ : MethodName) (⟨"PagedHart", "returnFromTrap", "()Z"⟩ : MethodName) ∈ gBIG := ms 22 rfl rfl
theorem mX_0_countDown : Cond.selects "PagedHart" (⟨"PagedHart", "countDown", "(I)V"⟩ : MethodName) (⟨"PagedHart", "countDown", "(I)V"⟩ : MethodName) ∈ gBIG := ms 23 rfl rfl
theorem mX_1_step : Cond.selects "PagedHartModel" (⟨"PagedHartModel", "step", "()V"⟩ : MethodName) (⟨"PagedHartModel", "step", "()V"⟩ : MethodName) ∈ gBIG := ms 24 rfl rfl
theorem mX_1_trap : Cond.selects "PagedHartModel" (⟨"PagedHartModel", "trap", "(II)V"⟩ : MethodName) (⟨"PagedHartModel", "trap", "(II)V"⟩ : MethodName) ∈ gBIG := ms 25 rfl rfl
theorem mX_1_reach : Cond.selects "PagedHartModel" (⟨"PagedHartModel", "reach", "(III)I"⟩ : MethodName) (⟨"PagedHartModel", "reach", "(III)I"⟩ : MethodName) ∈ gBIG := ms 26 rfl rfl
theorem mX_1_translated : Cond.selects "PagedHartModel" (⟨"PagedHartModel", "translated", "(II)I"⟩ : MethodName) (⟨"PagedHartModel", "translated", "(II)I"⟩ : MethodName) ∈ gBIG := ms 27 rfl rfl
theorem mX_1_lets : Cond.selects "PagedHartModel" (⟨"PagedHartModel", "lets", "(IIZ)Z"⟩ : MethodName) (⟨"PagedHartModel", "lets", "(IIZ)Z"⟩ : MethodName) ∈ gBIG := ms 28 rfl rfl
theorem mX_1_perform : Cond.selects "PagedHartModel" (⟨"PagedHartModel", "perform", "(I)V"⟩ : MethodName) (⟨"PagedHartModel", "perform", "(I)V"⟩ : MethodName) ∈ gBIG := ms 29 rfl rfl
theorem mX_1_set : Cond.selects "PagedHartModel" (⟨"PagedHartModel", "set", "(II)V"⟩ : MethodName) (⟨"PagedHartModel", "set", "(II)V"⟩ : MethodName) ∈ gBIG := ms 30 rfl rfl
theorem mX_1_jump : Cond.selects "PagedHartModel" (⟨"PagedHartModel", "jump", "(II)V"⟩ : MethodName) (⟨"PagedHartModel", "jump", "(II)V"⟩ : MethodName) ∈ gBIG := ms 31 rfl rfl
theorem mX_1_branch : Cond.selects "PagedHartModel" (⟨"PagedHartModel", "branch", "(IIII)V"⟩ : MethodName) (⟨"PagedHartModel", "branch", "(IIII)V"⟩ : MethodName) ∈ gBIG := ms 32 rfl rfl
theorem mX_1_load : Cond.selects "PagedHartModel" (⟨"PagedHartModel", "load", "(IIII)V"⟩ : MethodName) (⟨"PagedHartModel", "load", "(IIII)V"⟩ : MethodName) ∈ gBIG := ms 33 rfl rfl
theorem mX_1_store : Cond.selects "PagedHartModel" (⟨"PagedHartModel", "store", "(IIII)V"⟩ : MethodName) (⟨"PagedHartModel", "store", "(IIII)V"⟩ : MethodName) ∈ gBIG := ms 34 rfl rfl
theorem mX_1_withNumber : Cond.selects "PagedHartModel" (⟨"PagedHartModel", "withNumber", "(IIIII)V"⟩ : MethodName) (⟨"PagedHartModel", "withNumber", "(IIIII)V"⟩ : MethodName) ∈ gBIG := ms 35 rfl rfl
theorem mX_1_withTwo : Cond.selects "PagedHartModel" (⟨"PagedHartModel", "withTwo", "(IIIII)V"⟩ : MethodName) (⟨"PagedHartModel", "withTwo", "(IIIII)V"⟩ : MethodName) ∈ gBIG := ms 36 rfl rfl
theorem mX_1_system : Cond.selects "PagedHartModel" (⟨"PagedHartModel", "system", "(IIII)V"⟩ : MethodName) (⟨"PagedHartModel", "system", "(IIII)V"⟩ : MethodName) ∈ gBIG := ms 37 rfl rfl
theorem mX_1_exchange : Cond.selects "PagedHartModel" (⟨"PagedHartModel", "exchange", "(IIII)V"⟩ : MethodName) (⟨"PagedHartModel", "exchange", "(IIII)V"⟩ : MethodName) ∈ gBIG := ms 38 rfl rfl
theorem mX_1_controlOf : Cond.selects "PagedHartModel" (⟨"PagedHartModel", "controlOf", "(I)I"⟩ : MethodName) (⟨"PagedHartModel", "controlOf", "(I)I"⟩ : MethodName) ∈ gBIG := ms 39 rfl rfl
theorem mX_1_putControl : Cond.selects "PagedHartModel" (⟨"PagedHartModel", "putControl", "(II)V"⟩ : MethodName) (⟨"PagedHartModel", "putControl", "(II)V"⟩ : MethodName) ∈ gBIG := ms 40 rfl rfl
end
section
theorem dX0_init_0 : decode cX0_init 0 = .ok (.aload_n 0, 1) := by decide +kernel
theorem dX0_init_1 : decode cX0_init 1 = .ok (.invokespecial 3, 3) := by decide +kernel
theorem dX0_init_4 : decode cX0_init 4 = .ok (.aload_n 0, 1) := by decide +kernel
theorem dX0_init_5 : decode cX0_init 5 = .ok (.ldc 9, 2) := by decide +kernel
theorem dX0_init_7 : decode cX0_init 7 = .ok (.newarray .int, 2) := by decide +kernel
theorem dX0_init_9 : decode cX0_init 9 = .ok (.putfield 10, 3) := by decide +kernel
theorem dX0_init_12 : decode cX0_init 12 = .ok (.aload_n 0, 1) := by decide +kernel
theorem dX0_init_13 : decode cX0_init 13 = .ok (.bipush 32, 2) := by decide +kernel
theorem dX0_init_15 : decode cX0_init 15 = .ok (.newarray .int, 2) := by decide +kernel
theorem dX0_init_17 : decode cX0_init 17 = .ok (.putfield 14, 3) := by decide +kernel
theorem dX0_init_20 : decode cX0_init 20 = .ok (.aload_n 0, 1) := by decide +kernel
theorem dX0_init_21 : decode cX0_init 21 = .ok (.bipush 9, 2) := by decide +kernel
theorem dX0_init_23 : decode cX0_init 23 = .ok (.newarray .int, 2) := by decide +kernel
theorem dX0_init_25 : decode cX0_init 25 = .ok (.putfield 17, 3) := by decide +kernel
theorem dX0_init_28 : decode cX0_init 28 = .ok (.aload_n 0, 1) := by decide +kernel
theorem dX0_init_29 : decode cX0_init 29 = .ok (.getfield 17, 3) := by decide +kernel
theorem dX0_init_32 : decode cX0_init 32 = .ok (.bipush 7, 2) := by decide +kernel
theorem dX0_init_34 : decode cX0_init 34 = .ok (.iconst (-1), 1) := by decide +kernel
theorem dX0_init_35 : decode cX0_init 35 = .ok (.iastore, 1) := by decide +kernel
theorem dX0_init_36 : decode cX0_init 36 = .ok (.aload_n 0, 1) := by decide +kernel
theorem dX0_init_37 : decode cX0_init 37 = .ok (.getfield 17, 3) := by decide +kernel
theorem dX0_init_40 : decode cX0_init 40 = .ok (.bipush 8, 2) := by decide +kernel
theorem dX0_init_42 : decode cX0_init 42 = .ok (.iconst (-1), 1) := by decide +kernel
theorem dX0_init_43 : decode cX0_init 43 = .ok (.iastore, 1) := by decide +kernel
theorem dX0_init_44 : decode cX0_init 44 = .ok (.aload_n 0, 1) := by decide +kernel
theorem dX0_init_45 : decode cX0_init 45 = .ok (.iconst 0, 1) := by decide +kernel
theorem dX0_init_46 : decode cX0_init 46 = .ok (.putfield 20, 3) := by decide +kernel
theorem dX0_init_49 : decode cX0_init 49 = .ok (.aload_n 0, 1) := by decide +kernel
theorem dX0_init_50 : decode cX0_init 50 = .ok (.iconst 1, 1) := by decide +kernel
theorem dX0_init_51 : decode cX0_init 51 = .ok (.putfield 24, 3) := by decide +kernel
theorem dX0_init_54 : decode cX0_init 54 = .ok (.aload_n 0, 1) := by decide +kernel
theorem dX0_init_55 : decode cX0_init 55 = .ok (.iconst 0, 1) := by decide +kernel
theorem dX0_init_56 : decode cX0_init 56 = .ok (.putfield 27, 3) := by decide +kernel
theorem dX0_init_59 : decode cX0_init 59 = .ok (.return_, 1) := by decide +kernel
theorem dX0_run_0 : decode cX0_run 0 = .ok (.iload_n 1, 1) := by decide +kernel
theorem dX0_run_1 : decode cX0_run 1 = .ok (.ifCond .lt 10, 3) := by decide +kernel
theorem dX0_run_4 : decode cX0_run 4 = .ok (.iload_n 1, 1) := by decide +kernel
theorem dX0_run_5 : decode cX0_run 5 = .ok (.sipush 20000, 3) := by decide +kernel
theorem dX0_run_8 : decode cX0_run 8 = .ok (.if_icmp .le 13, 3) := by decide +kernel
theorem dX0_run_11 : decode cX0_run 11 = .ok (.new 31, 3) := by decide +kernel
theorem dX0_run_14 : decode cX0_run 14 = .ok (.dup, 1) := by decide +kernel
theorem dX0_run_15 : decode cX0_run 15 = .ok (.ldc 33, 2) := by decide +kernel
theorem dX0_run_17 : decode cX0_run 17 = .ok (.invokespecial 35, 3) := by decide +kernel
theorem dX0_run_20 : decode cX0_run 20 = .ok (.athrow, 1) := by decide +kernel
theorem dX0_run_21 : decode cX0_run 21 = .ok (.iload_n 1, 1) := by decide +kernel
theorem dX0_run_22 : decode cX0_run 22 = .ok (.ifCond .ne 5, 3) := by decide +kernel
theorem dX0_run_25 : decode cX0_run 25 = .ok (.iconst 0, 1) := by decide +kernel
theorem dX0_run_26 : decode cX0_run 26 = .ok (.ireturn, 1) := by decide +kernel
theorem dX0_run_27 : decode cX0_run 27 = .ok (.aload_n 0, 1) := by decide +kernel
theorem dX0_run_28 : decode cX0_run 28 = .ok (.iconst 0, 1) := by decide +kernel
theorem dX0_run_29 : decode cX0_run 29 = .ok (.putfield 27, 3) := by decide +kernel
theorem dX0_run_32 : decode cX0_run 32 = .ok (.iconst 0, 1) := by decide +kernel
theorem dX0_run_33 : decode cX0_run 33 = .ok (.istore_n 2, 1) := by decide +kernel
theorem dX0_run_34 : decode cX0_run 34 = .ok (.iload_n 2, 1) := by decide +kernel
theorem dX0_run_35 : decode cX0_run 35 = .ok (.iload_n 1, 1) := by decide +kernel
theorem dX0_run_36 : decode cX0_run 36 = .ok (.if_icmp .ge 20, 3) := by decide +kernel
theorem dX0_run_39 : decode cX0_run 39 = .ok (.aload_n 0, 1) := by decide +kernel
theorem dX0_run_40 : decode cX0_run 40 = .ok (.getfield 27, 3) := by decide +kernel
theorem dX0_run_43 : decode cX0_run 43 = .ok (.ifCond .ne 13, 3) := by decide +kernel
theorem dX0_run_46 : decode cX0_run 46 = .ok (.aload_n 0, 1) := by decide +kernel
theorem dX0_run_47 : decode cX0_run 47 = .ok (.invokevirtual 38, 3) := by decide +kernel
theorem dX0_run_50 : decode cX0_run 50 = .ok (.iinc 2 1, 3) := by decide +kernel
theorem dX0_run_53 : decode cX0_run 53 = .ok (.goto (-19), 3) := by decide +kernel
theorem dX0_run_56 : decode cX0_run 56 = .ok (.iload_n 2, 1) := by decide +kernel
theorem dX0_run_57 : decode cX0_run 57 = .ok (.ireturn, 1) := by decide +kernel
theorem dX0_called_0 : decode cX0_called 0 = .ok (.aload_n 0, 1) := by decide +kernel
theorem dX0_called_1 : decode cX0_called 1 = .ok (.getfield 27, 3) := by decide +kernel
theorem dX0_called_4 : decode cX0_called 4 = .ok (.ireturn, 1) := by decide +kernel
theorem dX0_peek_0 : decode cX0_peek 0 = .ok (.iload_n 1, 1) := by decide +kernel
theorem dX0_peek_1 : decode cX0_peek 1 = .ok (.invokestatic 41, 3) := by decide +kernel
theorem dX0_peek_4 : decode cX0_peek 4 = .ok (.ifCond .ne 13, 3) := by decide +kernel
theorem dX0_peek_7 : decode cX0_peek 7 = .ok (.new 45, 3) := by decide +kernel
theorem dX0_peek_10 : decode cX0_peek 10 = .ok (.dup, 1) := by decide +kernel
theorem dX0_peek_11 : decode cX0_peek 11 = .ok (.ldc 47, 2) := by decide +kernel
theorem dX0_peek_13 : decode cX0_peek 13 = .ok (.invokespecial 49, 3) := by decide +kernel
theorem dX0_peek_16 : decode cX0_peek 16 = .ok (.athrow, 1) := by decide +kernel
theorem dX0_peek_17 : decode cX0_peek 17 = .ok (.aload_n 0, 1) := by decide +kernel
theorem dX0_peek_18 : decode cX0_peek 18 = .ok (.getfield 10, 3) := by decide +kernel
theorem dX0_peek_21 : decode cX0_peek 21 = .ok (.iload_n 1, 1) := by decide +kernel
theorem dX0_peek_22 : decode cX0_peek 22 = .ok (.iconst 2, 1) := by decide +kernel
theorem dX0_peek_23 : decode cX0_peek 23 = .ok (.iushr, 1) := by decide +kernel
theorem dX0_peek_24 : decode cX0_peek 24 = .ok (.iaload, 1) := by decide +kernel
theorem dX0_peek_25 : decode cX0_peek 25 = .ok (.ireturn, 1) := by decide +kernel
theorem dX0_poke_0 : decode cX0_poke 0 = .ok (.iload_n 1, 1) := by decide +kernel
theorem dX0_poke_1 : decode cX0_poke 1 = .ok (.invokestatic 41, 3) := by decide +kernel
theorem dX0_poke_4 : decode cX0_poke 4 = .ok (.ifCond .ne 13, 3) := by decide +kernel
theorem dX0_poke_7 : decode cX0_poke 7 = .ok (.new 45, 3) := by decide +kernel
theorem dX0_poke_10 : decode cX0_poke 10 = .ok (.dup, 1) := by decide +kernel
theorem dX0_poke_11 : decode cX0_poke 11 = .ok (.ldc 47, 2) := by decide +kernel
theorem dX0_poke_13 : decode cX0_poke 13 = .ok (.invokespecial 49, 3) := by decide +kernel
theorem dX0_poke_16 : decode cX0_poke 16 = .ok (.athrow, 1) := by decide +kernel
theorem dX0_poke_17 : decode cX0_poke 17 = .ok (.aload_n 0, 1) := by decide +kernel
theorem dX0_poke_18 : decode cX0_poke 18 = .ok (.getfield 10, 3) := by decide +kernel
theorem dX0_poke_21 : decode cX0_poke 21 = .ok (.iload_n 1, 1) := by decide +kernel
theorem dX0_poke_22 : decode cX0_poke 22 = .ok (.iconst 2, 1) := by decide +kernel
theorem dX0_poke_23 : decode cX0_poke 23 = .ok (.iushr, 1) := by decide +kernel
theorem dX0_poke_24 : decode cX0_poke 24 = .ok (.iload_n 2, 1) := by decide +kernel
theorem dX0_poke_25 : decode cX0_poke 25 = .ok (.iastore, 1) := by decide +kernel
theorem dX0_poke_26 : decode cX0_poke 26 = .ok (.return_, 1) := by decide +kernel
theorem dX0_pokeFour_0 : decode cX0_pokeFour 0 = .ok (.iload_n 1, 1) := by decide +kernel
theorem dX0_pokeFour_1 : decode cX0_pokeFour 1 = .ok (.invokestatic 41, 3) := by decide +kernel
theorem dX0_pokeFour_4 : decode cX0_pokeFour 4 = .ok (.ifCond .eq 13, 3) := by decide +kernel
theorem dX0_pokeFour_7 : decode cX0_pokeFour 7 = .ok (.iload_n 1, 1) := by decide +kernel
theorem dX0_pokeFour_8 : decode cX0_pokeFour 8 = .ok (.bipush 12, 2) := by decide +kernel
theorem dX0_pokeFour_10 : decode cX0_pokeFour 10 = .ok (.iadd, 1) := by decide +kernel
theorem dX0_pokeFour_11 : decode cX0_pokeFour 11 = .ok (.invokestatic 41, 3) := by decide +kernel
theorem dX0_pokeFour_14 : decode cX0_pokeFour 14 = .ok (.ifCond .ne 13, 3) := by decide +kernel
theorem dX0_pokeFour_17 : decode cX0_pokeFour 17 = .ok (.new 45, 3) := by decide +kernel
theorem dX0_pokeFour_20 : decode cX0_pokeFour 20 = .ok (.dup, 1) := by decide +kernel
theorem dX0_pokeFour_21 : decode cX0_pokeFour 21 = .ok (.ldc 50, 2) := by decide +kernel
theorem dX0_pokeFour_23 : decode cX0_pokeFour 23 = .ok (.invokespecial 49, 3) := by decide +kernel
theorem dX0_pokeFour_26 : decode cX0_pokeFour 26 = .ok (.athrow, 1) := by decide +kernel
theorem dX0_pokeFour_27 : decode cX0_pokeFour 27 = .ok (.iload_n 1, 1) := by decide +kernel
theorem dX0_pokeFour_28 : decode cX0_pokeFour 28 = .ok (.iconst 2, 1) := by decide +kernel
theorem dX0_pokeFour_29 : decode cX0_pokeFour 29 = .ok (.iushr, 1) := by decide +kernel
theorem dX0_pokeFour_30 : decode cX0_pokeFour 30 = .ok (.istore 6, 2) := by decide +kernel
theorem dX0_pokeFour_32 : decode cX0_pokeFour 32 = .ok (.aload_n 0, 1) := by decide +kernel
theorem dX0_pokeFour_33 : decode cX0_pokeFour 33 = .ok (.getfield 10, 3) := by decide +kernel
theorem dX0_pokeFour_36 : decode cX0_pokeFour 36 = .ok (.iload 6, 2) := by decide +kernel
theorem dX0_pokeFour_38 : decode cX0_pokeFour 38 = .ok (.iload_n 2, 1) := by decide +kernel
theorem dX0_pokeFour_39 : decode cX0_pokeFour 39 = .ok (.iastore, 1) := by decide +kernel
theorem dX0_pokeFour_40 : decode cX0_pokeFour 40 = .ok (.aload_n 0, 1) := by decide +kernel
theorem dX0_pokeFour_41 : decode cX0_pokeFour 41 = .ok (.getfield 10, 3) := by decide +kernel
theorem dX0_pokeFour_44 : decode cX0_pokeFour 44 = .ok (.iload 6, 2) := by decide +kernel
theorem dX0_pokeFour_46 : decode cX0_pokeFour 46 = .ok (.iconst 1, 1) := by decide +kernel
theorem dX0_pokeFour_47 : decode cX0_pokeFour 47 = .ok (.iadd, 1) := by decide +kernel
theorem dX0_pokeFour_48 : decode cX0_pokeFour 48 = .ok (.iload_n 3, 1) := by decide +kernel
theorem dX0_pokeFour_49 : decode cX0_pokeFour 49 = .ok (.iastore, 1) := by decide +kernel
theorem dX0_pokeFour_50 : decode cX0_pokeFour 50 = .ok (.aload_n 0, 1) := by decide +kernel
theorem dX0_pokeFour_51 : decode cX0_pokeFour 51 = .ok (.getfield 10, 3) := by decide +kernel
theorem dX0_pokeFour_54 : decode cX0_pokeFour 54 = .ok (.iload 6, 2) := by decide +kernel
theorem dX0_pokeFour_56 : decode cX0_pokeFour 56 = .ok (.iconst 2, 1) := by decide +kernel
theorem dX0_pokeFour_57 : decode cX0_pokeFour 57 = .ok (.iadd, 1) := by decide +kernel
theorem dX0_pokeFour_58 : decode cX0_pokeFour 58 = .ok (.iload 4, 2) := by decide +kernel
theorem dX0_pokeFour_60 : decode cX0_pokeFour 60 = .ok (.iastore, 1) := by decide +kernel
theorem dX0_pokeFour_61 : decode cX0_pokeFour 61 = .ok (.aload_n 0, 1) := by decide +kernel
theorem dX0_pokeFour_62 : decode cX0_pokeFour 62 = .ok (.getfield 10, 3) := by decide +kernel
theorem dX0_pokeFour_65 : decode cX0_pokeFour 65 = .ok (.iload 6, 2) := by decide +kernel
theorem dX0_pokeFour_67 : decode cX0_pokeFour 67 = .ok (.iconst 3, 1) := by decide +kernel
theorem dX0_pokeFour_68 : decode cX0_pokeFour 68 = .ok (.iadd, 1) := by decide +kernel
theorem dX0_pokeFour_69 : decode cX0_pokeFour 69 = .ok (.iload 5, 2) := by decide +kernel
theorem dX0_pokeFour_71 : decode cX0_pokeFour 71 = .ok (.iastore, 1) := by decide +kernel
theorem dX0_pokeFour_72 : decode cX0_pokeFour 72 = .ok (.return_, 1) := by decide +kernel
theorem dX0_register_0 : decode cX0_register 0 = .ok (.iload_n 1, 1) := by decide +kernel
theorem dX0_register_1 : decode cX0_register 1 = .ok (.ifCond .lt 9, 3) := by decide +kernel
theorem dX0_register_4 : decode cX0_register 4 = .ok (.iload_n 1, 1) := by decide +kernel
theorem dX0_register_5 : decode cX0_register 5 = .ok (.bipush 33, 2) := by decide +kernel
theorem dX0_register_7 : decode cX0_register 7 = .ok (.if_icmp .le 13, 3) := by decide +kernel
theorem dX0_register_10 : decode cX0_register 10 = .ok (.new 45, 3) := by decide +kernel
theorem dX0_register_13 : decode cX0_register 13 = .ok (.dup, 1) := by decide +kernel
theorem dX0_register_14 : decode cX0_register 14 = .ok (.ldc 52, 2) := by decide +kernel
theorem dX0_register_16 : decode cX0_register 16 = .ok (.invokespecial 49, 3) := by decide +kernel
theorem dX0_register_19 : decode cX0_register 19 = .ok (.athrow, 1) := by decide +kernel
theorem dX0_register_20 : decode cX0_register 20 = .ok (.iload_n 1, 1) := by decide +kernel
theorem dX0_register_21 : decode cX0_register 21 = .ok (.bipush 32, 2) := by decide +kernel
theorem dX0_register_23 : decode cX0_register 23 = .ok (.if_icmp .ne 8, 3) := by decide +kernel
theorem dX0_register_26 : decode cX0_register 26 = .ok (.aload_n 0, 1) := by decide +kernel
theorem dX0_register_27 : decode cX0_register 27 = .ok (.getfield 20, 3) := by decide +kernel
theorem dX0_register_30 : decode cX0_register 30 = .ok (.ireturn, 1) := by decide +kernel
theorem dX0_register_31 : decode cX0_register 31 = .ok (.iload_n 1, 1) := by decide +kernel
theorem dX0_register_32 : decode cX0_register 32 = .ok (.bipush 33, 2) := by decide +kernel
theorem dX0_register_34 : decode cX0_register 34 = .ok (.if_icmp .ne 10, 3) := by decide +kernel
theorem dX0_register_37 : decode cX0_register 37 = .ok (.aload_n 0, 1) := by decide +kernel
theorem dX0_register_38 : decode cX0_register 38 = .ok (.getfield 24, 3) := by decide +kernel
theorem dX0_register_41 : decode cX0_register 41 = .ok (.goto 9, 3) := by decide +kernel
theorem dX0_register_44 : decode cX0_register 44 = .ok (.aload_n 0, 1) := by decide +kernel
theorem dX0_register_45 : decode cX0_register 45 = .ok (.getfield 14, 3) := by decide +kernel
theorem dX0_register_48 : decode cX0_register 48 = .ok (.iload_n 1, 1) := by decide +kernel
theorem dX0_register_49 : decode cX0_register 49 = .ok (.iaload, 1) := by decide +kernel
theorem dX0_register_50 : decode cX0_register 50 = .ok (.ireturn, 1) := by decide +kernel
theorem dX0_setRegister_0 : decode cX0_setRegister 0 = .ok (.iload_n 1, 1) := by decide +kernel
theorem dX0_setRegister_1 : decode cX0_setRegister 1 = .ok (.ifCond .lt 9, 3) := by decide +kernel
theorem dX0_setRegister_4 : decode cX0_setRegister 4 = .ok (.iload_n 1, 1) := by decide +kernel
theorem dX0_setRegister_5 : decode cX0_setRegister 5 = .ok (.bipush 33, 2) := by decide +kernel
theorem dX0_setRegister_7 : decode cX0_setRegister 7 = .ok (.if_icmp .le 13, 3) := by decide +kernel
theorem dX0_setRegister_10 : decode cX0_setRegister 10 = .ok (.new 45, 3) := by decide +kernel
theorem dX0_setRegister_13 : decode cX0_setRegister 13 = .ok (.dup, 1) := by decide +kernel
theorem dX0_setRegister_14 : decode cX0_setRegister 14 = .ok (.ldc 52, 2) := by decide +kernel
theorem dX0_setRegister_16 : decode cX0_setRegister 16 = .ok (.invokespecial 49, 3) := by decide +kernel
theorem dX0_setRegister_19 : decode cX0_setRegister 19 = .ok (.athrow, 1) := by decide +kernel
theorem dX0_setRegister_20 : decode cX0_setRegister 20 = .ok (.iload_n 1, 1) := by decide +kernel
theorem dX0_setRegister_21 : decode cX0_setRegister 21 = .ok (.bipush 32, 2) := by decide +kernel
theorem dX0_setRegister_23 : decode cX0_setRegister 23 = .ok (.if_icmp .ne 11, 3) := by decide +kernel
theorem dX0_setRegister_26 : decode cX0_setRegister 26 = .ok (.aload_n 0, 1) := by decide +kernel
theorem dX0_setRegister_27 : decode cX0_setRegister 27 = .ok (.iload_n 2, 1) := by decide +kernel
theorem dX0_setRegister_28 : decode cX0_setRegister 28 = .ok (.putfield 20, 3) := by decide +kernel
theorem dX0_setRegister_31 : decode cX0_setRegister 31 = .ok (.goto 30, 3) := by decide +kernel
theorem dX0_setRegister_34 : decode cX0_setRegister 34 = .ok (.iload_n 1, 1) := by decide +kernel
theorem dX0_setRegister_35 : decode cX0_setRegister 35 = .ok (.bipush 33, 2) := by decide +kernel
theorem dX0_setRegister_37 : decode cX0_setRegister 37 = .ok (.if_icmp .ne 13, 3) := by decide +kernel
theorem dX0_setRegister_40 : decode cX0_setRegister 40 = .ok (.aload_n 0, 1) := by decide +kernel
theorem dX0_setRegister_41 : decode cX0_setRegister 41 = .ok (.iload_n 2, 1) := by decide +kernel
theorem dX0_setRegister_42 : decode cX0_setRegister 42 = .ok (.iconst 1, 1) := by decide +kernel
theorem dX0_setRegister_43 : decode cX0_setRegister 43 = .ok (.iand, 1) := by decide +kernel
theorem dX0_setRegister_44 : decode cX0_setRegister 44 = .ok (.putfield 24, 3) := by decide +kernel
theorem dX0_setRegister_47 : decode cX0_setRegister 47 = .ok (.goto 14, 3) := by decide +kernel
theorem dX0_setRegister_50 : decode cX0_setRegister 50 = .ok (.iload_n 1, 1) := by decide +kernel
theorem dX0_setRegister_51 : decode cX0_setRegister 51 = .ok (.ifCond .eq 10, 3) := by decide +kernel
theorem dX0_setRegister_54 : decode cX0_setRegister 54 = .ok (.aload_n 0, 1) := by decide +kernel
theorem dX0_setRegister_55 : decode cX0_setRegister 55 = .ok (.getfield 14, 3) := by decide +kernel
theorem dX0_setRegister_58 : decode cX0_setRegister 58 = .ok (.iload_n 1, 1) := by decide +kernel
theorem dX0_setRegister_59 : decode cX0_setRegister 59 = .ok (.iload_n 2, 1) := by decide +kernel
theorem dX0_setRegister_60 : decode cX0_setRegister 60 = .ok (.iastore, 1) := by decide +kernel
theorem dX0_setRegister_61 : decode cX0_setRegister 61 = .ok (.return_, 1) := by decide +kernel
theorem dX0_control_0 : decode cX0_control 0 = .ok (.iload_n 1, 1) := by decide +kernel
theorem dX0_control_1 : decode cX0_control 1 = .ok (.invokestatic 54, 3) := by decide +kernel
theorem dX0_control_4 : decode cX0_control 4 = .ok (.istore_n 2, 1) := by decide +kernel
theorem dX0_control_5 : decode cX0_control 5 = .ok (.iload_n 2, 1) := by decide +kernel
theorem dX0_control_6 : decode cX0_control 6 = .ok (.ifCond .ge 13, 3) := by decide +kernel
theorem dX0_control_9 : decode cX0_control 9 = .ok (.new 58, 3) := by decide +kernel
theorem dX0_control_12 : decode cX0_control 12 = .ok (.dup, 1) := by decide +kernel
theorem dX0_control_13 : decode cX0_control 13 = .ok (.ldc 60, 2) := by decide +kernel
theorem dX0_control_15 : decode cX0_control 15 = .ok (.invokespecial 62, 3) := by decide +kernel
theorem dX0_control_18 : decode cX0_control 18 = .ok (.athrow, 1) := by decide +kernel
theorem dX0_control_19 : decode cX0_control 19 = .ok (.aload_n 0, 1) := by decide +kernel
theorem dX0_control_20 : decode cX0_control 20 = .ok (.getfield 17, 3) := by decide +kernel
theorem dX0_control_23 : decode cX0_control 23 = .ok (.iload_n 2, 1) := by decide +kernel
theorem dX0_control_24 : decode cX0_control 24 = .ok (.iaload, 1) := by decide +kernel
theorem dX0_control_25 : decode cX0_control 25 = .ok (.ireturn, 1) := by decide +kernel
theorem dX0_setControl_0 : decode cX0_setControl 0 = .ok (.iload_n 1, 1) := by decide +kernel
theorem dX0_setControl_1 : decode cX0_setControl 1 = .ok (.invokestatic 54, 3) := by decide +kernel
theorem dX0_setControl_4 : decode cX0_setControl 4 = .ok (.istore_n 3, 1) := by decide +kernel
theorem dX0_setControl_5 : decode cX0_setControl 5 = .ok (.iload_n 3, 1) := by decide +kernel
theorem dX0_setControl_6 : decode cX0_setControl 6 = .ok (.ifCond .ge 13, 3) := by decide +kernel
theorem dX0_setControl_9 : decode cX0_setControl 9 = .ok (.new 58, 3) := by decide +kernel
theorem dX0_setControl_12 : decode cX0_setControl 12 = .ok (.dup, 1) := by decide +kernel
theorem dX0_setControl_13 : decode cX0_setControl 13 = .ok (.ldc 60, 2) := by decide +kernel
theorem dX0_setControl_15 : decode cX0_setControl 15 = .ok (.invokespecial 62, 3) := by decide +kernel
theorem dX0_setControl_18 : decode cX0_setControl 18 = .ok (.athrow, 1) := by decide +kernel
theorem dX0_setControl_19 : decode cX0_setControl 19 = .ok (.aload_n 0, 1) := by decide +kernel
theorem dX0_setControl_20 : decode cX0_setControl 20 = .ok (.getfield 17, 3) := by decide +kernel
theorem dX0_setControl_23 : decode cX0_setControl 23 = .ok (.iload_n 3, 1) := by decide +kernel
theorem dX0_setControl_24 : decode cX0_setControl 24 = .ok (.iload_n 2, 1) := by decide +kernel
theorem dX0_setControl_25 : decode cX0_setControl 25 = .ok (.getstatic 63, 3) := by decide +kernel
theorem dX0_setControl_28 : decode cX0_setControl 28 = .ok (.iload_n 3, 1) := by decide +kernel
theorem dX0_setControl_29 : decode cX0_setControl 29 = .ok (.iaload, 1) := by decide +kernel
theorem dX0_setControl_30 : decode cX0_setControl 30 = .ok (.iand, 1) := by decide +kernel
theorem dX0_setControl_31 : decode cX0_setControl 31 = .ok (.iastore, 1) := by decide +kernel
theorem dX0_setControl_32 : decode cX0_setControl 32 = .ok (.return_, 1) := by decide +kernel
theorem dX0_translate_0 : decode cX0_translate 0 = .ok (.iload_n 2, 1) := by decide +kernel
theorem dX0_translate_1 : decode cX0_translate 1 = .ok (.ifCond .lt 8, 3) := by decide +kernel
theorem dX0_translate_4 : decode cX0_translate 4 = .ok (.iload_n 2, 1) := by decide +kernel
theorem dX0_translate_5 : decode cX0_translate 5 = .ok (.iconst 2, 1) := by decide +kernel
theorem dX0_translate_6 : decode cX0_translate 6 = .ok (.if_icmp .le 13, 3) := by decide +kernel
theorem dX0_translate_9 : decode cX0_translate 9 = .ok (.new 31, 3) := by decide +kernel
theorem dX0_translate_12 : decode cX0_translate 12 = .ok (.dup, 1) := by decide +kernel
theorem dX0_translate_13 : decode cX0_translate 13 = .ok (.ldc 66, 2) := by decide +kernel
theorem dX0_translate_15 : decode cX0_translate 15 = .ok (.invokespecial 35, 3) := by decide +kernel
theorem dX0_translate_18 : decode cX0_translate 18 = .ok (.athrow, 1) := by decide +kernel
theorem dX0_translate_19 : decode cX0_translate 19 = .ok (.aload_n 0, 1) := by decide +kernel
theorem dX0_translate_20 : decode cX0_translate 20 = .ok (.iload_n 1, 1) := by decide +kernel
theorem dX0_translate_21 : decode cX0_translate 21 = .ok (.iload_n 2, 1) := by decide +kernel
theorem dX0_translate_22 : decode cX0_translate 22 = .ok (.invokevirtual 68, 3) := by decide +kernel
theorem dX0_translate_25 : decode cX0_translate 25 = .ok (.ireturn, 1) := by decide +kernel
theorem dX0_isInMemory_0 : decode cX0_isInMemory 0 = .ok (.iload_n 0, 1) := by decide +kernel
theorem dX0_isInMemory_1 : decode cX0_isInMemory 1 = .ok (.ifCond .lt 13, 3) := by decide +kernel
theorem dX0_isInMemory_4 : decode cX0_isInMemory 4 = .ok (.iload_n 0, 1) := by decide +kernel
theorem dX0_isInMemory_5 : decode cX0_isInMemory 5 = .ok (.ldc 72, 2) := by decide +kernel
theorem dX0_isInMemory_7 : decode cX0_isInMemory 7 = .ok (.if_icmp .ge 7, 3) := by decide +kernel
theorem dX0_isInMemory_10 : decode cX0_isInMemory 10 = .ok (.iconst 1, 1) := by decide +kernel
theorem dX0_isInMemory_11 : decode cX0_isInMemory 11 = .ok (.goto 4, 3) := by decide +kernel
theorem dX0_isInMemory_14 : decode cX0_isInMemory 14 = .ok (.iconst 0, 1) := by decide +kernel
theorem dX0_isInMemory_15 : decode cX0_isInMemory 15 = .ok (.ireturn, 1) := by decide +kernel
theorem dX0_isWord_0 : decode cX0_isWord 0 = .ok (.iload_n 0, 1) := by decide +kernel
theorem dX0_isWord_1 : decode cX0_isWord 1 = .ok (.invokestatic 73, 3) := by decide +kernel
theorem dX0_isWord_4 : decode cX0_isWord 4 = .ok (.ifCond .eq 13, 3) := by decide +kernel
theorem dX0_isWord_7 : decode cX0_isWord 7 = .ok (.iload_n 0, 1) := by decide +kernel
theorem dX0_isWord_8 : decode cX0_isWord 8 = .ok (.iconst 3, 1) := by decide +kernel
theorem dX0_isWord_9 : decode cX0_isWord 9 = .ok (.iand, 1) := by decide +kernel
theorem dX0_isWord_10 : decode cX0_isWord 10 = .ok (.ifCond .ne 7, 3) := by decide +kernel
theorem dX0_isWord_13 : decode cX0_isWord 13 = .ok (.iconst 1, 1) := by decide +kernel
theorem dX0_isWord_14 : decode cX0_isWord 14 = .ok (.goto 4, 3) := by decide +kernel
theorem dX0_isWord_17 : decode cX0_isWord 17 = .ok (.iconst 0, 1) := by decide +kernel
theorem dX0_isWord_18 : decode cX0_isWord 18 = .ok (.ireturn, 1) := by decide +kernel
theorem dX0_locateAligned_0 : decode cX0_locateAligned 0 = .ok (.iload_n 1, 1) := by decide +kernel
theorem dX0_locateAligned_1 : decode cX0_locateAligned 1 = .ok (.iload_n 3, 1) := by decide +kernel
theorem dX0_locateAligned_2 : decode cX0_locateAligned 2 = .ok (.iconst 1, 1) := by decide +kernel
theorem dX0_locateAligned_3 : decode cX0_locateAligned 3 = .ok (.isub, 1) := by decide +kernel
theorem dX0_locateAligned_4 : decode cX0_locateAligned 4 = .ok (.iand, 1) := by decide +kernel
theorem dX0_locateAligned_5 : decode cX0_locateAligned 5 = .ok (.ifCond .eq 10, 3) := by decide +kernel
theorem dX0_locateAligned_8 : decode cX0_locateAligned 8 = .ok (.iconst (-1), 1) := by decide +kernel
theorem dX0_locateAligned_9 : decode cX0_locateAligned 9 = .ok (.iload_n 2, 1) := by decide +kernel
theorem dX0_locateAligned_10 : decode cX0_locateAligned 10 = .ok (.invokestatic 76, 3) := by decide +kernel
theorem dX0_locateAligned_13 : decode cX0_locateAligned 13 = .ok (.isub, 1) := by decide +kernel
theorem dX0_locateAligned_14 : decode cX0_locateAligned 14 = .ok (.ireturn, 1) := by decide +kernel
theorem dX0_locateAligned_15 : decode cX0_locateAligned 15 = .ok (.aload_n 0, 1) := by decide +kernel
theorem dX0_locateAligned_16 : decode cX0_locateAligned 16 = .ok (.iload_n 1, 1) := by decide +kernel
theorem dX0_locateAligned_17 : decode cX0_locateAligned 17 = .ok (.iload_n 2, 1) := by decide +kernel
theorem dX0_locateAligned_18 : decode cX0_locateAligned 18 = .ok (.invokevirtual 68, 3) := by decide +kernel
theorem dX0_locateAligned_21 : decode cX0_locateAligned 21 = .ok (.ireturn, 1) := by decide +kernel
theorem dX0_locate_0 : decode cX0_locate 0 = .ok (.iload_n 1, 1) := by decide +kernel
theorem dX0_locate_1 : decode cX0_locate 1 = .ok (.istore_n 3, 1) := by decide +kernel
theorem dX0_locate_2 : decode cX0_locate 2 = .ok (.aload_n 0, 1) := by decide +kernel
theorem dX0_locate_3 : decode cX0_locate 3 = .ok (.getfield 17, 3) := by decide +kernel
theorem dX0_locate_6 : decode cX0_locate 6 = .ok (.bipush 6, 2) := by decide +kernel
theorem dX0_locate_8 : decode cX0_locate 8 = .ok (.iaload, 1) := by decide +kernel
theorem dX0_locate_9 : decode cX0_locate 9 = .ok (.istore 4, 2) := by decide +kernel
theorem dX0_locate_11 : decode cX0_locate 11 = .ok (.iload 4, 2) := by decide +kernel
theorem dX0_locate_13 : decode cX0_locate 13 = .ok (.ifCond .ge 144, 3) := by decide +kernel
theorem dX0_locate_16 : decode cX0_locate 16 = .ok (.iload 4, 2) := by decide +kernel
theorem dX0_locate_18 : decode cX0_locate 18 = .ok (.bipush 12, 2) := by decide +kernel
theorem dX0_locate_20 : decode cX0_locate 20 = .ok (.ishl, 1) := by decide +kernel
theorem dX0_locate_21 : decode cX0_locate 21 = .ok (.iload_n 1, 1) := by decide +kernel
theorem dX0_locate_22 : decode cX0_locate 22 = .ok (.bipush 22, 2) := by decide +kernel
theorem dX0_locate_24 : decode cX0_locate 24 = .ok (.iushr, 1) := by decide +kernel
theorem dX0_locate_25 : decode cX0_locate 25 = .ok (.iconst 2, 1) := by decide +kernel
theorem dX0_locate_26 : decode cX0_locate 26 = .ok (.ishl, 1) := by decide +kernel
theorem dX0_locate_27 : decode cX0_locate 27 = .ok (.iadd, 1) := by decide +kernel
theorem dX0_locate_28 : decode cX0_locate 28 = .ok (.istore 5, 2) := by decide +kernel
theorem dX0_locate_30 : decode cX0_locate 30 = .ok (.iload 5, 2) := by decide +kernel
theorem dX0_locate_32 : decode cX0_locate 32 = .ok (.invokestatic 73, 3) := by decide +kernel
theorem dX0_locate_35 : decode cX0_locate 35 = .ok (.ifCond .ne 10, 3) := by decide +kernel
theorem dX0_locate_38 : decode cX0_locate 38 = .ok (.iconst (-1), 1) := by decide +kernel
theorem dX0_locate_39 : decode cX0_locate 39 = .ok (.iload_n 2, 1) := by decide +kernel
theorem dX0_locate_40 : decode cX0_locate 40 = .ok (.invokestatic 79, 3) := by decide +kernel
theorem dX0_locate_43 : decode cX0_locate 43 = .ok (.isub, 1) := by decide +kernel
theorem dX0_locate_44 : decode cX0_locate 44 = .ok (.ireturn, 1) := by decide +kernel
theorem dX0_locate_45 : decode cX0_locate 45 = .ok (.aload_n 0, 1) := by decide +kernel
theorem dX0_locate_46 : decode cX0_locate 46 = .ok (.getfield 10, 3) := by decide +kernel
theorem dX0_locate_49 : decode cX0_locate 49 = .ok (.iload 5, 2) := by decide +kernel
theorem dX0_locate_51 : decode cX0_locate 51 = .ok (.iconst 2, 1) := by decide +kernel
theorem dX0_locate_52 : decode cX0_locate 52 = .ok (.iushr, 1) := by decide +kernel
theorem dX0_locate_53 : decode cX0_locate 53 = .ok (.iaload, 1) := by decide +kernel
theorem dX0_locate_54 : decode cX0_locate 54 = .ok (.istore 6, 2) := by decide +kernel
theorem dX0_locate_56 : decode cX0_locate 56 = .ok (.ldc 82, 2) := by decide +kernel
theorem dX0_locate_58 : decode cX0_locate 58 = .ok (.istore 7, 2) := by decide +kernel
theorem dX0_locate_60 : decode cX0_locate 60 = .ok (.iload 6, 2) := by decide +kernel
theorem dX0_locate_62 : decode cX0_locate 62 = .ok (.bipush 15, 2) := by decide +kernel
theorem dX0_locate_64 : decode cX0_locate 64 = .ok (.iand, 1) := by decide +kernel
theorem dX0_locate_65 : decode cX0_locate 65 = .ok (.iconst 1, 1) := by decide +kernel
theorem dX0_locate_66 : decode cX0_locate 66 = .ok (.if_icmp .ne 52, 3) := by decide +kernel
theorem dX0_locate_69 : decode cX0_locate 69 = .ok (.iload 6, 2) := by decide +kernel
theorem dX0_locate_71 : decode cX0_locate 71 = .ok (.invokestatic 83, 3) := by decide +kernel
theorem dX0_locate_74 : decode cX0_locate 74 = .ok (.iload_n 1, 1) := by decide +kernel
theorem dX0_locate_75 : decode cX0_locate 75 = .ok (.bipush 12, 2) := by decide +kernel
theorem dX0_locate_77 : decode cX0_locate 77 = .ok (.iushr, 1) := by decide +kernel
theorem dX0_locate_78 : decode cX0_locate 78 = .ok (.sipush 1023, 3) := by decide +kernel
theorem dX0_locate_81 : decode cX0_locate 81 = .ok (.iand, 1) := by decide +kernel
theorem dX0_locate_82 : decode cX0_locate 82 = .ok (.iconst 2, 1) := by decide +kernel
theorem dX0_locate_83 : decode cX0_locate 83 = .ok (.ishl, 1) := by decide +kernel
theorem dX0_locate_84 : decode cX0_locate 84 = .ok (.iadd, 1) := by decide +kernel
theorem dX0_locate_85 : decode cX0_locate 85 = .ok (.istore 5, 2) := by decide +kernel
theorem dX0_locate_87 : decode cX0_locate 87 = .ok (.iload 5, 2) := by decide +kernel
theorem dX0_locate_89 : decode cX0_locate 89 = .ok (.invokestatic 73, 3) := by decide +kernel
theorem dX0_locate_92 : decode cX0_locate 92 = .ok (.ifCond .ne 10, 3) := by decide +kernel
theorem dX0_locate_95 : decode cX0_locate 95 = .ok (.iconst (-1), 1) := by decide +kernel
theorem dX0_locate_96 : decode cX0_locate 96 = .ok (.iload_n 2, 1) := by decide +kernel
theorem dX0_locate_97 : decode cX0_locate 97 = .ok (.invokestatic 79, 3) := by decide +kernel
theorem dX0_locate_100 : decode cX0_locate 100 = .ok (.isub, 1) := by decide +kernel
theorem dX0_locate_101 : decode cX0_locate 101 = .ok (.ireturn, 1) := by decide +kernel
theorem dX0_locate_102 : decode cX0_locate 102 = .ok (.aload_n 0, 1) := by decide +kernel
theorem dX0_locate_103 : decode cX0_locate 103 = .ok (.getfield 10, 3) := by decide +kernel
theorem dX0_locate_106 : decode cX0_locate 106 = .ok (.iload 5, 2) := by decide +kernel
theorem dX0_locate_108 : decode cX0_locate 108 = .ok (.iconst 2, 1) := by decide +kernel
theorem dX0_locate_109 : decode cX0_locate 109 = .ok (.iushr, 1) := by decide +kernel
theorem dX0_locate_110 : decode cX0_locate 110 = .ok (.iaload, 1) := by decide +kernel
theorem dX0_locate_111 : decode cX0_locate 111 = .ok (.istore 6, 2) := by decide +kernel
theorem dX0_locate_113 : decode cX0_locate 113 = .ok (.sipush 4095, 3) := by decide +kernel
theorem dX0_locate_116 : decode cX0_locate 116 = .ok (.istore 7, 2) := by decide +kernel
theorem dX0_locate_118 : decode cX0_locate 118 = .ok (.iload 6, 2) := by decide +kernel
theorem dX0_locate_120 : decode cX0_locate 120 = .ok (.invokestatic 83, 3) := by decide +kernel
theorem dX0_locate_123 : decode cX0_locate 123 = .ok (.iload 7, 2) := by decide +kernel
theorem dX0_locate_125 : decode cX0_locate 125 = .ok (.iand, 1) := by decide +kernel
theorem dX0_locate_126 : decode cX0_locate 126 = .ok (.ifCond .ne 13, 3) := by decide +kernel
theorem dX0_locate_129 : decode cX0_locate 129 = .ok (.aload_n 0, 1) := by decide +kernel
theorem dX0_locate_130 : decode cX0_locate 130 = .ok (.iload 6, 2) := by decide +kernel
theorem dX0_locate_132 : decode cX0_locate 132 = .ok (.iload_n 2, 1) := by decide +kernel
theorem dX0_locate_133 : decode cX0_locate 133 = .ok (.invokevirtual 86, 3) := by decide +kernel
theorem dX0_locate_136 : decode cX0_locate 136 = .ok (.ifCond .ne 10, 3) := by decide +kernel
theorem dX0_locate_139 : decode cX0_locate 139 = .ok (.iconst (-1), 1) := by decide +kernel
theorem dX0_locate_140 : decode cX0_locate 140 = .ok (.iload_n 2, 1) := by decide +kernel
theorem dX0_locate_141 : decode cX0_locate 141 = .ok (.invokestatic 90, 3) := by decide +kernel
theorem dX0_locate_144 : decode cX0_locate 144 = .ok (.isub, 1) := by decide +kernel
theorem dX0_locate_145 : decode cX0_locate 145 = .ok (.ireturn, 1) := by decide +kernel
theorem dX0_locate_146 : decode cX0_locate 146 = .ok (.iload 6, 2) := by decide +kernel
theorem dX0_locate_148 : decode cX0_locate 148 = .ok (.invokestatic 83, 3) := by decide +kernel
theorem dX0_locate_151 : decode cX0_locate 151 = .ok (.iload_n 1, 1) := by decide +kernel
theorem dX0_locate_152 : decode cX0_locate 152 = .ok (.iload 7, 2) := by decide +kernel
theorem dX0_locate_154 : decode cX0_locate 154 = .ok (.iand, 1) := by decide +kernel
theorem dX0_locate_155 : decode cX0_locate 155 = .ok (.iadd, 1) := by decide +kernel
theorem dX0_locate_156 : decode cX0_locate 156 = .ok (.istore_n 3, 1) := by decide +kernel
theorem dX0_locate_157 : decode cX0_locate 157 = .ok (.iload_n 3, 1) := by decide +kernel
theorem dX0_locate_158 : decode cX0_locate 158 = .ok (.invokestatic 73, 3) := by decide +kernel
theorem dX0_locate_161 : decode cX0_locate 161 = .ok (.ifCond .eq 7, 3) := by decide +kernel
theorem dX0_locate_164 : decode cX0_locate 164 = .ok (.iload_n 3, 1) := by decide +kernel
theorem dX0_locate_165 : decode cX0_locate 165 = .ok (.goto 9, 3) := by decide +kernel
theorem dX0_locate_168 : decode cX0_locate 168 = .ok (.iconst (-1), 1) := by decide +kernel
theorem dX0_locate_169 : decode cX0_locate 169 = .ok (.iload_n 2, 1) := by decide +kernel
theorem dX0_locate_170 : decode cX0_locate 170 = .ok (.invokestatic 79, 3) := by decide +kernel
theorem dX0_locate_173 : decode cX0_locate 173 = .ok (.isub, 1) := by decide +kernel
theorem dX0_locate_174 : decode cX0_locate 174 = .ok (.ireturn, 1) := by decide +kernel
theorem dX0_frameOf_0 : decode cX0_frameOf 0 = .ok (.iload_n 0, 1) := by decide +kernel
theorem dX0_frameOf_1 : decode cX0_frameOf 1 = .ok (.bipush 10, 2) := by decide +kernel
theorem dX0_frameOf_3 : decode cX0_frameOf 3 = .ok (.iushr, 1) := by decide +kernel
theorem dX0_frameOf_4 : decode cX0_frameOf 4 = .ok (.bipush 12, 2) := by decide +kernel
theorem dX0_frameOf_6 : decode cX0_frameOf 6 = .ok (.ishl, 1) := by decide +kernel
theorem dX0_frameOf_7 : decode cX0_frameOf 7 = .ok (.ireturn, 1) := by decide +kernel
theorem dX0_permits_0 : decode cX0_permits 0 = .ok (.bipush 65, 2) := by decide +kernel
theorem dX0_permits_2 : decode cX0_permits 2 = .ok (.istore_n 3, 1) := by decide +kernel
theorem dX0_permits_3 : decode cX0_permits 3 = .ok (.iload_n 2, 1) := by decide +kernel
theorem dX0_permits_4 : decode cX0_permits 4 = .ok (.ifCond .ne 11, 3) := by decide +kernel
theorem dX0_permits_7 : decode cX0_permits 7 = .ok (.iload_n 3, 1) := by decide +kernel
theorem dX0_permits_8 : decode cX0_permits 8 = .ok (.bipush 8, 2) := by decide +kernel
theorem dX0_permits_10 : decode cX0_permits 10 = .ok (.ior, 1) := by decide +kernel
theorem dX0_permits_11 : decode cX0_permits 11 = .ok (.istore_n 3, 1) := by decide +kernel
theorem dX0_permits_12 : decode cX0_permits 12 = .ok (.goto 21, 3) := by decide +kernel
theorem dX0_permits_15 : decode cX0_permits 15 = .ok (.iload_n 2, 1) := by decide +kernel
theorem dX0_permits_16 : decode cX0_permits 16 = .ok (.iconst 1, 1) := by decide +kernel
theorem dX0_permits_17 : decode cX0_permits 17 = .ok (.if_icmp .ne 10, 3) := by decide +kernel
theorem dX0_permits_20 : decode cX0_permits 20 = .ok (.iload_n 3, 1) := by decide +kernel
theorem dX0_permits_21 : decode cX0_permits 21 = .ok (.iconst 2, 1) := by decide +kernel
theorem dX0_permits_22 : decode cX0_permits 22 = .ok (.ior, 1) := by decide +kernel
theorem dX0_permits_23 : decode cX0_permits 23 = .ok (.istore_n 3, 1) := by decide +kernel
theorem dX0_permits_24 : decode cX0_permits 24 = .ok (.goto 9, 3) := by decide +kernel
theorem dX0_permits_27 : decode cX0_permits 27 = .ok (.iload_n 3, 1) := by decide +kernel
theorem dX0_permits_28 : decode cX0_permits 28 = .ok (.sipush 132, 3) := by decide +kernel
theorem dX0_permits_31 : decode cX0_permits 31 = .ok (.ior, 1) := by decide +kernel
theorem dX0_permits_32 : decode cX0_permits 32 = .ok (.istore_n 3, 1) := by decide +kernel
theorem dX0_permits_33 : decode cX0_permits 33 = .ok (.iload_n 1, 1) := by decide +kernel
theorem dX0_permits_34 : decode cX0_permits 34 = .ok (.bipush 6, 2) := by decide +kernel
theorem dX0_permits_36 : decode cX0_permits 36 = .ok (.iand, 1) := by decide +kernel
theorem dX0_permits_37 : decode cX0_permits 37 = .ok (.iconst 4, 1) := by decide +kernel
theorem dX0_permits_38 : decode cX0_permits 38 = .ok (.if_icmp .ne 7, 3) := by decide +kernel
theorem dX0_permits_41 : decode cX0_permits 41 = .ok (.iconst 1, 1) := by decide +kernel
theorem dX0_permits_42 : decode cX0_permits 42 = .ok (.goto 4, 3) := by decide +kernel
theorem dX0_permits_45 : decode cX0_permits 45 = .ok (.iconst 0, 1) := by decide +kernel
theorem dX0_permits_46 : decode cX0_permits 46 = .ok (.istore 4, 2) := by decide +kernel
theorem dX0_permits_48 : decode cX0_permits 48 = .ok (.iload 4, 2) := by decide +kernel
theorem dX0_permits_50 : decode cX0_permits 50 = .ok (.ifCond .ne 10, 3) := by decide +kernel
theorem dX0_permits_53 : decode cX0_permits 53 = .ok (.iload_n 1, 1) := by decide +kernel
theorem dX0_permits_54 : decode cX0_permits 54 = .ok (.iload_n 3, 1) := by decide +kernel
theorem dX0_permits_55 : decode cX0_permits 55 = .ok (.iand, 1) := by decide +kernel
theorem dX0_permits_56 : decode cX0_permits 56 = .ok (.iload_n 3, 1) := by decide +kernel
theorem dX0_permits_57 : decode cX0_permits 57 = .ok (.if_icmp .eq 5, 3) := by decide +kernel
theorem dX0_permits_60 : decode cX0_permits 60 = .ok (.iconst 0, 1) := by decide +kernel
theorem dX0_permits_61 : decode cX0_permits 61 = .ok (.ireturn, 1) := by decide +kernel
theorem dX0_permits_62 : decode cX0_permits 62 = .ok (.iload_n 1, 1) := by decide +kernel
theorem dX0_permits_63 : decode cX0_permits 63 = .ok (.bipush 16, 2) := by decide +kernel
theorem dX0_permits_65 : decode cX0_permits 65 = .ok (.iand, 1) := by decide +kernel
theorem dX0_permits_66 : decode cX0_permits 66 = .ok (.ifCond .eq 7, 3) := by decide +kernel
theorem dX0_permits_69 : decode cX0_permits 69 = .ok (.iconst 1, 1) := by decide +kernel
theorem dX0_permits_70 : decode cX0_permits 70 = .ok (.goto 4, 3) := by decide +kernel
theorem dX0_permits_73 : decode cX0_permits 73 = .ok (.iconst 0, 1) := by decide +kernel
theorem dX0_permits_74 : decode cX0_permits 74 = .ok (.istore 5, 2) := by decide +kernel
theorem dX0_permits_76 : decode cX0_permits 76 = .ok (.aload_n 0, 1) := by decide +kernel
theorem dX0_permits_77 : decode cX0_permits 77 = .ok (.getfield 24, 3) := by decide +kernel
theorem dX0_permits_80 : decode cX0_permits 80 = .ok (.ifCond .ne 6, 3) := by decide +kernel
theorem dX0_permits_83 : decode cX0_permits 83 = .ok (.iload 5, 2) := by decide +kernel
theorem dX0_permits_85 : decode cX0_permits 85 = .ok (.ireturn, 1) := by decide +kernel
theorem dX0_permits_86 : decode cX0_permits 86 = .ok (.iload 5, 2) := by decide +kernel
theorem dX0_permits_88 : decode cX0_permits 88 = .ok (.ifCond .eq 19, 3) := by decide +kernel
theorem dX0_permits_91 : decode cX0_permits 91 = .ok (.iload_n 2, 1) := by decide +kernel
theorem dX0_permits_92 : decode cX0_permits 92 = .ok (.ifCond .eq 19, 3) := by decide +kernel
theorem dX0_permits_95 : decode cX0_permits 95 = .ok (.aload_n 0, 1) := by decide +kernel
theorem dX0_permits_96 : decode cX0_permits 96 = .ok (.getfield 17, 3) := by decide +kernel
theorem dX0_permits_99 : decode cX0_permits 99 = .ok (.iconst 0, 1) := by decide +kernel
theorem dX0_permits_100 : decode cX0_permits 100 = .ok (.iaload, 1) := by decide +kernel
theorem dX0_permits_101 : decode cX0_permits 101 = .ok (.ldc 72, 2) := by decide +kernel
theorem dX0_permits_103 : decode cX0_permits 103 = .ok (.iand, 1) := by decide +kernel
theorem dX0_permits_104 : decode cX0_permits 104 = .ok (.ifCond .eq 7, 3) := by decide +kernel
theorem dX0_permits_107 : decode cX0_permits 107 = .ok (.iconst 1, 1) := by decide +kernel
theorem dX0_permits_108 : decode cX0_permits 108 = .ok (.goto 4, 3) := by decide +kernel
theorem dX0_permits_111 : decode cX0_permits 111 = .ok (.iconst 0, 1) := by decide +kernel
theorem dX0_permits_112 : decode cX0_permits 112 = .ok (.ireturn, 1) := by decide +kernel
theorem dX0_misalignedCause_0 : decode cX0_misalignedCause 0 = .ok (.iload_n 0, 1) := by decide +kernel
theorem dX0_misalignedCause_1 : decode cX0_misalignedCause 1 = .ok (.ifCond .ne 5, 3) := by decide +kernel
theorem dX0_misalignedCause_4 : decode cX0_misalignedCause 4 = .ok (.iconst 0, 1) := by decide +kernel
theorem dX0_misalignedCause_5 : decode cX0_misalignedCause 5 = .ok (.ireturn, 1) := by decide +kernel
theorem dX0_misalignedCause_6 : decode cX0_misalignedCause 6 = .ok (.iload_n 0, 1) := by decide +kernel
theorem dX0_misalignedCause_7 : decode cX0_misalignedCause 7 = .ok (.iconst 1, 1) := by decide +kernel
theorem dX0_misalignedCause_8 : decode cX0_misalignedCause 8 = .ok (.if_icmp .ne 7, 3) := by decide +kernel
theorem dX0_misalignedCause_11 : decode cX0_misalignedCause 11 = .ok (.iconst 4, 1) := by decide +kernel
theorem dX0_misalignedCause_12 : decode cX0_misalignedCause 12 = .ok (.goto 5, 3) := by decide +kernel
theorem dX0_misalignedCause_15 : decode cX0_misalignedCause 15 = .ok (.bipush 6, 2) := by decide +kernel
theorem dX0_misalignedCause_17 : decode cX0_misalignedCause 17 = .ok (.ireturn, 1) := by decide +kernel
theorem dX0_accessCause_0 : decode cX0_accessCause 0 = .ok (.iload_n 0, 1) := by decide +kernel
theorem dX0_accessCause_1 : decode cX0_accessCause 1 = .ok (.ifCond .ne 5, 3) := by decide +kernel
theorem dX0_accessCause_4 : decode cX0_accessCause 4 = .ok (.iconst 1, 1) := by decide +kernel
theorem dX0_accessCause_5 : decode cX0_accessCause 5 = .ok (.ireturn, 1) := by decide +kernel
theorem dX0_accessCause_6 : decode cX0_accessCause 6 = .ok (.iload_n 0, 1) := by decide +kernel
theorem dX0_accessCause_7 : decode cX0_accessCause 7 = .ok (.iconst 1, 1) := by decide +kernel
theorem dX0_accessCause_8 : decode cX0_accessCause 8 = .ok (.if_icmp .ne 7, 3) := by decide +kernel
theorem dX0_accessCause_11 : decode cX0_accessCause 11 = .ok (.iconst 5, 1) := by decide +kernel
theorem dX0_accessCause_12 : decode cX0_accessCause 12 = .ok (.goto 5, 3) := by decide +kernel
theorem dX0_accessCause_15 : decode cX0_accessCause 15 = .ok (.bipush 7, 2) := by decide +kernel
theorem dX0_accessCause_17 : decode cX0_accessCause 17 = .ok (.ireturn, 1) := by decide +kernel
theorem dX0_pageCause_0 : decode cX0_pageCause 0 = .ok (.iload_n 0, 1) := by decide +kernel
theorem dX0_pageCause_1 : decode cX0_pageCause 1 = .ok (.ifCond .ne 6, 3) := by decide +kernel
theorem dX0_pageCause_4 : decode cX0_pageCause 4 = .ok (.bipush 12, 2) := by decide +kernel
theorem dX0_pageCause_6 : decode cX0_pageCause 6 = .ok (.ireturn, 1) := by decide +kernel
theorem dX0_pageCause_7 : decode cX0_pageCause 7 = .ok (.iload_n 0, 1) := by decide +kernel
theorem dX0_pageCause_8 : decode cX0_pageCause 8 = .ok (.iconst 1, 1) := by decide +kernel
theorem dX0_pageCause_9 : decode cX0_pageCause 9 = .ok (.if_icmp .ne 8, 3) := by decide +kernel
theorem dX0_pageCause_12 : decode cX0_pageCause 12 = .ok (.bipush 13, 2) := by decide +kernel
theorem dX0_pageCause_14 : decode cX0_pageCause 14 = .ok (.goto 5, 3) := by decide +kernel
theorem dX0_pageCause_17 : decode cX0_pageCause 17 = .ok (.bipush 15, 2) := by decide +kernel
theorem dX0_pageCause_19 : decode cX0_pageCause 19 = .ok (.ireturn, 1) := by decide +kernel
theorem dX0_slotOf_0 : decode cX0_slotOf 0 = .ok (.iconst 0, 1) := by decide +kernel
theorem dX0_slotOf_1 : decode cX0_slotOf 1 = .ok (.istore_n 1, 1) := by decide +kernel
theorem dX0_slotOf_2 : decode cX0_slotOf 2 = .ok (.iload_n 1, 1) := by decide +kernel
theorem dX0_slotOf_3 : decode cX0_slotOf 3 = .ok (.bipush 9, 2) := by decide +kernel
theorem dX0_slotOf_5 : decode cX0_slotOf 5 = .ok (.if_icmp .ge 20, 3) := by decide +kernel
theorem dX0_slotOf_8 : decode cX0_slotOf 8 = .ok (.getstatic 93, 3) := by decide +kernel
theorem dX0_slotOf_11 : decode cX0_slotOf 11 = .ok (.iload_n 1, 1) := by decide +kernel
theorem dX0_slotOf_12 : decode cX0_slotOf 12 = .ok (.iaload, 1) := by decide +kernel
theorem dX0_slotOf_13 : decode cX0_slotOf 13 = .ok (.iload_n 0, 1) := by decide +kernel
theorem dX0_slotOf_14 : decode cX0_slotOf 14 = .ok (.if_icmp .ne 5, 3) := by decide +kernel
theorem dX0_slotOf_17 : decode cX0_slotOf 17 = .ok (.iload_n 1, 1) := by decide +kernel
theorem dX0_slotOf_18 : decode cX0_slotOf 18 = .ok (.ireturn, 1) := by decide +kernel
theorem dX0_slotOf_19 : decode cX0_slotOf 19 = .ok (.iinc 1 1, 3) := by decide +kernel
theorem dX0_slotOf_22 : decode cX0_slotOf 22 = .ok (.goto (-20), 3) := by decide +kernel
theorem dX0_slotOf_25 : decode cX0_slotOf 25 = .ok (.iconst (-1), 1) := by decide +kernel
theorem dX0_slotOf_26 : decode cX0_slotOf 26 = .ok (.ireturn, 1) := by decide +kernel
theorem dX0_step_0 : decode cX0_step 0 = .ok (.aload_n 0, 1) := by decide +kernel
theorem dX0_step_1 : decode cX0_step 1 = .ok (.getfield 24, 3) := by decide +kernel
theorem dX0_step_4 : decode cX0_step 4 = .ok (.ifCond .ne 7, 3) := by decide +kernel
theorem dX0_step_7 : decode cX0_step 7 = .ok (.iconst 1, 1) := by decide +kernel
theorem dX0_step_8 : decode cX0_step 8 = .ok (.goto 4, 3) := by decide +kernel
theorem dX0_step_11 : decode cX0_step 11 = .ok (.iconst 0, 1) := by decide +kernel
theorem dX0_step_12 : decode cX0_step 12 = .ok (.istore_n 1, 1) := by decide +kernel
theorem dX0_step_13 : decode cX0_step 13 = .ok (.iload_n 1, 1) := by decide +kernel
theorem dX0_step_14 : decode cX0_step 14 = .ok (.ifCond .eq 22, 3) := by decide +kernel
theorem dX0_step_17 : decode cX0_step 17 = .ok (.aload_n 0, 1) := by decide +kernel
theorem dX0_step_18 : decode cX0_step 18 = .ok (.getfield 17, 3) := by decide +kernel
theorem dX0_step_21 : decode cX0_step 21 = .ok (.bipush 8, 2) := by decide +kernel
theorem dX0_step_23 : decode cX0_step 23 = .ok (.iaload, 1) := by decide +kernel
theorem dX0_step_24 : decode cX0_step 24 = .ok (.ifCond .ne 12, 3) := by decide +kernel
theorem dX0_step_27 : decode cX0_step 27 = .ok (.aload_n 0, 1) := by decide +kernel
theorem dX0_step_28 : decode cX0_step 28 = .ok (.bipush 24, 2) := by decide +kernel
theorem dX0_step_30 : decode cX0_step 30 = .ok (.iconst 0, 1) := by decide +kernel
theorem dX0_step_31 : decode cX0_step 31 = .ok (.invokevirtual 96, 3) := by decide +kernel
theorem dX0_step_34 : decode cX0_step 34 = .ok (.pop, 1) := by decide +kernel
theorem dX0_step_35 : decode cX0_step 35 = .ok (.return_, 1) := by decide +kernel
theorem dX0_step_36 : decode cX0_step 36 = .ok (.iload_n 1, 1) := by decide +kernel
theorem dX0_step_37 : decode cX0_step 37 = .ok (.ifCond .eq 22, 3) := by decide +kernel
theorem dX0_step_40 : decode cX0_step 40 = .ok (.aload_n 0, 1) := by decide +kernel
theorem dX0_step_41 : decode cX0_step 41 = .ok (.getfield 17, 3) := by decide +kernel
theorem dX0_step_44 : decode cX0_step 44 = .ok (.bipush 7, 2) := by decide +kernel
theorem dX0_step_46 : decode cX0_step 46 = .ok (.iaload, 1) := by decide +kernel
theorem dX0_step_47 : decode cX0_step 47 = .ok (.ifCond .ne 12, 3) := by decide +kernel
theorem dX0_step_50 : decode cX0_step 50 = .ok (.aload_n 0, 1) := by decide +kernel
theorem dX0_step_51 : decode cX0_step 51 = .ok (.ldc 99, 2) := by decide +kernel
theorem dX0_step_53 : decode cX0_step 53 = .ok (.iconst 0, 1) := by decide +kernel
theorem dX0_step_54 : decode cX0_step 54 = .ok (.invokevirtual 96, 3) := by decide +kernel
theorem dX0_step_57 : decode cX0_step 57 = .ok (.pop, 1) := by decide +kernel
theorem dX0_step_58 : decode cX0_step 58 = .ok (.return_, 1) := by decide +kernel
theorem dX0_step_59 : decode cX0_step 59 = .ok (.aload_n 0, 1) := by decide +kernel
theorem dX0_step_60 : decode cX0_step 60 = .ok (.aload_n 0, 1) := by decide +kernel
theorem dX0_step_61 : decode cX0_step 61 = .ok (.getfield 20, 3) := by decide +kernel
theorem dX0_step_64 : decode cX0_step 64 = .ok (.iconst 0, 1) := by decide +kernel
theorem dX0_step_65 : decode cX0_step 65 = .ok (.iconst 4, 1) := by decide +kernel
theorem dX0_step_66 : decode cX0_step 66 = .ok (.invokevirtual 100, 3) := by decide +kernel
theorem dX0_step_69 : decode cX0_step 69 = .ok (.istore_n 2, 1) := by decide +kernel
theorem dX0_step_70 : decode cX0_step 70 = .ok (.iload_n 2, 1) := by decide +kernel
theorem dX0_step_71 : decode cX0_step 71 = .ok (.ifCond .ge 16, 3) := by decide +kernel
theorem dX0_step_74 : decode cX0_step 74 = .ok (.aload_n 0, 1) := by decide +kernel
theorem dX0_step_75 : decode cX0_step 75 = .ok (.iconst (-1), 1) := by decide +kernel
theorem dX0_step_76 : decode cX0_step 76 = .ok (.iload_n 2, 1) := by decide +kernel
theorem dX0_step_77 : decode cX0_step 77 = .ok (.isub, 1) := by decide +kernel
theorem dX0_step_78 : decode cX0_step 78 = .ok (.aload_n 0, 1) := by decide +kernel
theorem dX0_step_79 : decode cX0_step 79 = .ok (.getfield 20, 3) := by decide +kernel
theorem dX0_step_82 : decode cX0_step 82 = .ok (.invokevirtual 96, 3) := by decide +kernel
theorem dX0_step_85 : decode cX0_step 85 = .ok (.pop, 1) := by decide +kernel
theorem dX0_step_86 : decode cX0_step 86 = .ok (.return_, 1) := by decide +kernel
theorem dX0_step_87 : decode cX0_step 87 = .ok (.aload_n 0, 1) := by decide +kernel
theorem dX0_step_88 : decode cX0_step 88 = .ok (.aload_n 0, 1) := by decide +kernel
theorem dX0_step_89 : decode cX0_step 89 = .ok (.getfield 10, 3) := by decide +kernel
theorem dX0_step_92 : decode cX0_step 92 = .ok (.iload_n 2, 1) := by decide +kernel
theorem dX0_step_93 : decode cX0_step 93 = .ok (.iconst 2, 1) := by decide +kernel
theorem dX0_step_94 : decode cX0_step 94 = .ok (.iushr, 1) := by decide +kernel
theorem dX0_step_95 : decode cX0_step 95 = .ok (.iaload, 1) := by decide +kernel
theorem dX0_step_96 : decode cX0_step 96 = .ok (.invokevirtual 104, 3) := by decide +kernel
theorem dX0_step_99 : decode cX0_step 99 = .ok (.ifCond .eq 19, 3) := by decide +kernel
theorem dX0_step_102 : decode cX0_step 102 = .ok (.iload_n 1, 1) := by decide +kernel
theorem dX0_step_103 : decode cX0_step 103 = .ok (.ifCond .eq 15, 3) := by decide +kernel
theorem dX0_step_106 : decode cX0_step 106 = .ok (.aload_n 0, 1) := by decide +kernel
theorem dX0_step_107 : decode cX0_step 107 = .ok (.bipush 8, 2) := by decide +kernel
theorem dX0_step_109 : decode cX0_step 109 = .ok (.invokevirtual 107, 3) := by decide +kernel
theorem dX0_step_112 : decode cX0_step 112 = .ok (.aload_n 0, 1) := by decide +kernel
theorem dX0_step_113 : decode cX0_step 113 = .ok (.bipush 7, 2) := by decide +kernel
theorem dX0_step_115 : decode cX0_step 115 = .ok (.invokevirtual 107, 3) := by decide +kernel
theorem dX0_step_118 : decode cX0_step 118 = .ok (.return_, 1) := by decide +kernel
theorem dX0_countDown_0 : decode cX0_countDown 0 = .ok (.aload_n 0, 1) := by decide +kernel
theorem dX0_countDown_1 : decode cX0_countDown 1 = .ok (.getfield 17, 3) := by decide +kernel
theorem dX0_countDown_4 : decode cX0_countDown 4 = .ok (.iload_n 1, 1) := by decide +kernel
theorem dX0_countDown_5 : decode cX0_countDown 5 = .ok (.iaload, 1) := by decide +kernel
theorem dX0_countDown_6 : decode cX0_countDown 6 = .ok (.iconst (-1), 1) := by decide +kernel
theorem dX0_countDown_7 : decode cX0_countDown 7 = .ok (.if_icmp .eq 13, 3) := by decide +kernel
theorem dX0_countDown_10 : decode cX0_countDown 10 = .ok (.aload_n 0, 1) := by decide +kernel
theorem dX0_countDown_11 : decode cX0_countDown 11 = .ok (.getfield 17, 3) := by decide +kernel
theorem dX0_countDown_14 : decode cX0_countDown 14 = .ok (.iload_n 1, 1) := by decide +kernel
theorem dX0_countDown_15 : decode cX0_countDown 15 = .ok (.dup2, 1) := by decide +kernel
theorem dX0_countDown_16 : decode cX0_countDown 16 = .ok (.iaload, 1) := by decide +kernel
theorem dX0_countDown_17 : decode cX0_countDown 17 = .ok (.iconst 1, 1) := by decide +kernel
theorem dX0_countDown_18 : decode cX0_countDown 18 = .ok (.isub, 1) := by decide +kernel
theorem dX0_countDown_19 : decode cX0_countDown 19 = .ok (.iastore, 1) := by decide +kernel
theorem dX0_countDown_20 : decode cX0_countDown 20 = .ok (.return_, 1) := by decide +kernel
theorem dX0_trap_0 : decode cX0_trap 0 = .ok (.aload_n 0, 1) := by decide +kernel
theorem dX0_trap_1 : decode cX0_trap 1 = .ok (.getfield 17, 3) := by decide +kernel
theorem dX0_trap_4 : decode cX0_trap 4 = .ok (.iconst 3, 1) := by decide +kernel
end
section
theorem dX0_trap_5 : decode cX0_trap 5 = .ok (.aload_n 0, 1) := by decide +kernel
theorem dX0_trap_6 : decode cX0_trap 6 = .ok (.getfield 20, 3) := by decide +kernel
theorem dX0_trap_9 : decode cX0_trap 9 = .ok (.getstatic 63, 3) := by decide +kernel
theorem dX0_trap_12 : decode cX0_trap 12 = .ok (.iconst 3, 1) := by decide +kernel
theorem dX0_trap_13 : decode cX0_trap 13 = .ok (.iaload, 1) := by decide +kernel
theorem dX0_trap_14 : decode cX0_trap 14 = .ok (.iand, 1) := by decide +kernel
theorem dX0_trap_15 : decode cX0_trap 15 = .ok (.iastore, 1) := by decide +kernel
theorem dX0_trap_16 : decode cX0_trap 16 = .ok (.aload_n 0, 1) := by decide +kernel
theorem dX0_trap_17 : decode cX0_trap 17 = .ok (.getfield 17, 3) := by decide +kernel
theorem dX0_trap_20 : decode cX0_trap 20 = .ok (.iconst 4, 1) := by decide +kernel
theorem dX0_trap_21 : decode cX0_trap 21 = .ok (.iload_n 1, 1) := by decide +kernel
theorem dX0_trap_22 : decode cX0_trap 22 = .ok (.iastore, 1) := by decide +kernel
theorem dX0_trap_23 : decode cX0_trap 23 = .ok (.aload_n 0, 1) := by decide +kernel
theorem dX0_trap_24 : decode cX0_trap 24 = .ok (.getfield 17, 3) := by decide +kernel
theorem dX0_trap_27 : decode cX0_trap 27 = .ok (.iconst 5, 1) := by decide +kernel
theorem dX0_trap_28 : decode cX0_trap 28 = .ok (.iload_n 2, 1) := by decide +kernel
theorem dX0_trap_29 : decode cX0_trap 29 = .ok (.iastore, 1) := by decide +kernel
theorem dX0_trap_30 : decode cX0_trap 30 = .ok (.aload_n 0, 1) := by decide +kernel
theorem dX0_trap_31 : decode cX0_trap 31 = .ok (.getfield 17, 3) := by decide +kernel
theorem dX0_trap_34 : decode cX0_trap 34 = .ok (.iconst 0, 1) := by decide +kernel
theorem dX0_trap_35 : decode cX0_trap 35 = .ok (.aload_n 0, 1) := by decide +kernel
theorem dX0_trap_36 : decode cX0_trap 36 = .ok (.getfield 17, 3) := by decide +kernel
theorem dX0_trap_39 : decode cX0_trap 39 = .ok (.iconst 0, 1) := by decide +kernel
theorem dX0_trap_40 : decode cX0_trap 40 = .ok (.iaload, 1) := by decide +kernel
theorem dX0_trap_41 : decode cX0_trap 41 = .ok (.ldc 72, 2) := by decide +kernel
theorem dX0_trap_43 : decode cX0_trap 43 = .ok (.iand, 1) := by decide +kernel
theorem dX0_trap_44 : decode cX0_trap 44 = .ok (.aload_n 0, 1) := by decide +kernel
theorem dX0_trap_45 : decode cX0_trap 45 = .ok (.getfield 24, 3) := by decide +kernel
theorem dX0_trap_48 : decode cX0_trap 48 = .ok (.bipush 8, 2) := by decide +kernel
theorem dX0_trap_50 : decode cX0_trap 50 = .ok (.ishl, 1) := by decide +kernel
theorem dX0_trap_51 : decode cX0_trap 51 = .ok (.ior, 1) := by decide +kernel
theorem dX0_trap_52 : decode cX0_trap 52 = .ok (.iastore, 1) := by decide +kernel
theorem dX0_trap_53 : decode cX0_trap 53 = .ok (.aload_n 0, 1) := by decide +kernel
theorem dX0_trap_54 : decode cX0_trap 54 = .ok (.iconst 1, 1) := by decide +kernel
theorem dX0_trap_55 : decode cX0_trap 55 = .ok (.putfield 24, 3) := by decide +kernel
theorem dX0_trap_58 : decode cX0_trap 58 = .ok (.aload_n 0, 1) := by decide +kernel
theorem dX0_trap_59 : decode cX0_trap 59 = .ok (.aload_n 0, 1) := by decide +kernel
theorem dX0_trap_60 : decode cX0_trap 60 = .ok (.getfield 17, 3) := by decide +kernel
theorem dX0_trap_63 : decode cX0_trap 63 = .ok (.iconst 1, 1) := by decide +kernel
theorem dX0_trap_64 : decode cX0_trap 64 = .ok (.iaload, 1) := by decide +kernel
theorem dX0_trap_65 : decode cX0_trap 65 = .ok (.putfield 20, 3) := by decide +kernel
theorem dX0_trap_68 : decode cX0_trap 68 = .ok (.iconst 0, 1) := by decide +kernel
theorem dX0_trap_69 : decode cX0_trap 69 = .ok (.ireturn, 1) := by decide +kernel
theorem dX0_refuse_0 : decode cX0_refuse 0 = .ok (.aload_n 0, 1) := by decide +kernel
theorem dX0_refuse_1 : decode cX0_refuse 1 = .ok (.iconst 2, 1) := by decide +kernel
theorem dX0_refuse_2 : decode cX0_refuse 2 = .ok (.iload_n 1, 1) := by decide +kernel
theorem dX0_refuse_3 : decode cX0_refuse 3 = .ok (.invokevirtual 96, 3) := by decide +kernel
theorem dX0_refuse_6 : decode cX0_refuse 6 = .ok (.ireturn, 1) := by decide +kernel
theorem dX0_goOn_0 : decode cX0_goOn 0 = .ok (.aload_n 0, 1) := by decide +kernel
theorem dX0_goOn_1 : decode cX0_goOn 1 = .ok (.dup, 1) := by decide +kernel
theorem dX0_goOn_2 : decode cX0_goOn 2 = .ok (.getfield 20, 3) := by decide +kernel
theorem dX0_goOn_5 : decode cX0_goOn 5 = .ok (.iconst 4, 1) := by decide +kernel
theorem dX0_goOn_6 : decode cX0_goOn 6 = .ok (.iadd, 1) := by decide +kernel
theorem dX0_goOn_7 : decode cX0_goOn 7 = .ok (.putfield 20, 3) := by decide +kernel
theorem dX0_goOn_10 : decode cX0_goOn 10 = .ok (.iconst 1, 1) := by decide +kernel
theorem dX0_goOn_11 : decode cX0_goOn 11 = .ok (.ireturn, 1) := by decide +kernel
theorem dX0_goOnWith_0 : decode cX0_goOnWith 0 = .ok (.aload_n 0, 1) := by decide +kernel
theorem dX0_goOnWith_1 : decode cX0_goOnWith 1 = .ok (.iload_n 1, 1) := by decide +kernel
theorem dX0_goOnWith_2 : decode cX0_goOnWith 2 = .ok (.iload_n 2, 1) := by decide +kernel
theorem dX0_goOnWith_3 : decode cX0_goOnWith 3 = .ok (.invokevirtual 111, 3) := by decide +kernel
theorem dX0_goOnWith_6 : decode cX0_goOnWith 6 = .ok (.aload_n 0, 1) := by decide +kernel
theorem dX0_goOnWith_7 : decode cX0_goOnWith 7 = .ok (.invokevirtual 115, 3) := by decide +kernel
theorem dX0_goOnWith_10 : decode cX0_goOnWith 10 = .ok (.ireturn, 1) := by decide +kernel
theorem dX0_writeD_0 : decode cX0_writeD 0 = .ok (.iload_n 1, 1) := by decide +kernel
theorem dX0_writeD_1 : decode cX0_writeD 1 = .ok (.bipush 7, 2) := by decide +kernel
theorem dX0_writeD_3 : decode cX0_writeD 3 = .ok (.iushr, 1) := by decide +kernel
theorem dX0_writeD_4 : decode cX0_writeD 4 = .ok (.bipush 31, 2) := by decide +kernel
theorem dX0_writeD_6 : decode cX0_writeD 6 = .ok (.iand, 1) := by decide +kernel
theorem dX0_writeD_7 : decode cX0_writeD 7 = .ok (.istore_n 3, 1) := by decide +kernel
theorem dX0_writeD_8 : decode cX0_writeD 8 = .ok (.iload_n 3, 1) := by decide +kernel
theorem dX0_writeD_9 : decode cX0_writeD 9 = .ok (.ifCond .eq 10, 3) := by decide +kernel
theorem dX0_writeD_12 : decode cX0_writeD 12 = .ok (.aload_n 0, 1) := by decide +kernel
theorem dX0_writeD_13 : decode cX0_writeD 13 = .ok (.getfield 14, 3) := by decide +kernel
theorem dX0_writeD_16 : decode cX0_writeD 16 = .ok (.iload_n 3, 1) := by decide +kernel
theorem dX0_writeD_17 : decode cX0_writeD 17 = .ok (.iload_n 2, 1) := by decide +kernel
theorem dX0_writeD_18 : decode cX0_writeD 18 = .ok (.iastore, 1) := by decide +kernel
theorem dX0_writeD_19 : decode cX0_writeD 19 = .ok (.return_, 1) := by decide +kernel
theorem dX0_fOf_0 : decode cX0_fOf 0 = .ok (.iload_n 0, 1) := by decide +kernel
theorem dX0_fOf_1 : decode cX0_fOf 1 = .ok (.bipush 12, 2) := by decide +kernel
theorem dX0_fOf_3 : decode cX0_fOf 3 = .ok (.iushr, 1) := by decide +kernel
theorem dX0_fOf_4 : decode cX0_fOf 4 = .ok (.bipush 7, 2) := by decide +kernel
theorem dX0_fOf_6 : decode cX0_fOf 6 = .ok (.iand, 1) := by decide +kernel
theorem dX0_fOf_7 : decode cX0_fOf 7 = .ok (.ireturn, 1) := by decide +kernel
theorem dX0_gOf_0 : decode cX0_gOf 0 = .ok (.iload_n 0, 1) := by decide +kernel
theorem dX0_gOf_1 : decode cX0_gOf 1 = .ok (.bipush 25, 2) := by decide +kernel
theorem dX0_gOf_3 : decode cX0_gOf 3 = .ok (.iushr, 1) := by decide +kernel
theorem dX0_gOf_4 : decode cX0_gOf 4 = .ok (.ireturn, 1) := by decide +kernel
theorem dX0_aOf_0 : decode cX0_aOf 0 = .ok (.aload_n 0, 1) := by decide +kernel
theorem dX0_aOf_1 : decode cX0_aOf 1 = .ok (.getfield 14, 3) := by decide +kernel
theorem dX0_aOf_4 : decode cX0_aOf 4 = .ok (.iload_n 1, 1) := by decide +kernel
theorem dX0_aOf_5 : decode cX0_aOf 5 = .ok (.bipush 15, 2) := by decide +kernel
theorem dX0_aOf_7 : decode cX0_aOf 7 = .ok (.iushr, 1) := by decide +kernel
theorem dX0_aOf_8 : decode cX0_aOf 8 = .ok (.bipush 31, 2) := by decide +kernel
theorem dX0_aOf_10 : decode cX0_aOf 10 = .ok (.iand, 1) := by decide +kernel
theorem dX0_aOf_11 : decode cX0_aOf 11 = .ok (.iaload, 1) := by decide +kernel
theorem dX0_aOf_12 : decode cX0_aOf 12 = .ok (.ireturn, 1) := by decide +kernel
theorem dX0_bOf_0 : decode cX0_bOf 0 = .ok (.aload_n 0, 1) := by decide +kernel
theorem dX0_bOf_1 : decode cX0_bOf 1 = .ok (.getfield 14, 3) := by decide +kernel
theorem dX0_bOf_4 : decode cX0_bOf 4 = .ok (.iload_n 1, 1) := by decide +kernel
theorem dX0_bOf_5 : decode cX0_bOf 5 = .ok (.bipush 20, 2) := by decide +kernel
theorem dX0_bOf_7 : decode cX0_bOf 7 = .ok (.iushr, 1) := by decide +kernel
theorem dX0_bOf_8 : decode cX0_bOf 8 = .ok (.bipush 31, 2) := by decide +kernel
theorem dX0_bOf_10 : decode cX0_bOf 10 = .ok (.iand, 1) := by decide +kernel
theorem dX0_bOf_11 : decode cX0_bOf 11 = .ok (.iaload, 1) := by decide +kernel
theorem dX0_bOf_12 : decode cX0_bOf 12 = .ok (.ireturn, 1) := by decide +kernel
theorem dX0_iOf_0 : decode cX0_iOf 0 = .ok (.iload_n 0, 1) := by decide +kernel
theorem dX0_iOf_1 : decode cX0_iOf 1 = .ok (.bipush 20, 2) := by decide +kernel
theorem dX0_iOf_3 : decode cX0_iOf 3 = .ok (.ishr, 1) := by decide +kernel
theorem dX0_iOf_4 : decode cX0_iOf 4 = .ok (.ireturn, 1) := by decide +kernel
theorem dX0_sOf_0 : decode cX0_sOf 0 = .ok (.iload_n 0, 1) := by decide +kernel
theorem dX0_sOf_1 : decode cX0_sOf 1 = .ok (.bipush 25, 2) := by decide +kernel
theorem dX0_sOf_3 : decode cX0_sOf 3 = .ok (.ishr, 1) := by decide +kernel
theorem dX0_sOf_4 : decode cX0_sOf 4 = .ok (.iconst 5, 1) := by decide +kernel
theorem dX0_sOf_5 : decode cX0_sOf 5 = .ok (.ishl, 1) := by decide +kernel
theorem dX0_sOf_6 : decode cX0_sOf 6 = .ok (.iload_n 0, 1) := by decide +kernel
theorem dX0_sOf_7 : decode cX0_sOf 7 = .ok (.bipush 7, 2) := by decide +kernel
theorem dX0_sOf_9 : decode cX0_sOf 9 = .ok (.iushr, 1) := by decide +kernel
theorem dX0_sOf_10 : decode cX0_sOf 10 = .ok (.bipush 31, 2) := by decide +kernel
theorem dX0_sOf_12 : decode cX0_sOf 12 = .ok (.iand, 1) := by decide +kernel
theorem dX0_sOf_13 : decode cX0_sOf 13 = .ok (.ior, 1) := by decide +kernel
theorem dX0_sOf_14 : decode cX0_sOf 14 = .ok (.ireturn, 1) := by decide +kernel
theorem dX0_uOf_0 : decode cX0_uOf 0 = .ok (.iload_n 0, 1) := by decide +kernel
theorem dX0_uOf_1 : decode cX0_uOf 1 = .ok (.sipush (-4096), 3) := by decide +kernel
theorem dX0_uOf_4 : decode cX0_uOf 4 = .ok (.iand, 1) := by decide +kernel
theorem dX0_uOf_5 : decode cX0_uOf 5 = .ok (.ireturn, 1) := by decide +kernel
theorem dX0_branchDistance_0 : decode cX0_branchDistance 0 = .ok (.iload_n 0, 1) := by decide +kernel
theorem dX0_branchDistance_1 : decode cX0_branchDistance 1 = .ok (.bipush 31, 2) := by decide +kernel
theorem dX0_branchDistance_3 : decode cX0_branchDistance 3 = .ok (.ishr, 1) := by decide +kernel
theorem dX0_branchDistance_4 : decode cX0_branchDistance 4 = .ok (.bipush 12, 2) := by decide +kernel
theorem dX0_branchDistance_6 : decode cX0_branchDistance 6 = .ok (.ishl, 1) := by decide +kernel
theorem dX0_branchDistance_7 : decode cX0_branchDistance 7 = .ok (.iload_n 0, 1) := by decide +kernel
theorem dX0_branchDistance_8 : decode cX0_branchDistance 8 = .ok (.bipush 7, 2) := by decide +kernel
theorem dX0_branchDistance_10 : decode cX0_branchDistance 10 = .ok (.iushr, 1) := by decide +kernel
theorem dX0_branchDistance_11 : decode cX0_branchDistance 11 = .ok (.iconst 1, 1) := by decide +kernel
theorem dX0_branchDistance_12 : decode cX0_branchDistance 12 = .ok (.iand, 1) := by decide +kernel
theorem dX0_branchDistance_13 : decode cX0_branchDistance 13 = .ok (.bipush 11, 2) := by decide +kernel
theorem dX0_branchDistance_15 : decode cX0_branchDistance 15 = .ok (.ishl, 1) := by decide +kernel
theorem dX0_branchDistance_16 : decode cX0_branchDistance 16 = .ok (.ior, 1) := by decide +kernel
theorem dX0_branchDistance_17 : decode cX0_branchDistance 17 = .ok (.iload_n 0, 1) := by decide +kernel
theorem dX0_branchDistance_18 : decode cX0_branchDistance 18 = .ok (.bipush 25, 2) := by decide +kernel
theorem dX0_branchDistance_20 : decode cX0_branchDistance 20 = .ok (.iushr, 1) := by decide +kernel
theorem dX0_branchDistance_21 : decode cX0_branchDistance 21 = .ok (.bipush 63, 2) := by decide +kernel
theorem dX0_branchDistance_23 : decode cX0_branchDistance 23 = .ok (.iand, 1) := by decide +kernel
theorem dX0_branchDistance_24 : decode cX0_branchDistance 24 = .ok (.iconst 5, 1) := by decide +kernel
theorem dX0_branchDistance_25 : decode cX0_branchDistance 25 = .ok (.ishl, 1) := by decide +kernel
theorem dX0_branchDistance_26 : decode cX0_branchDistance 26 = .ok (.ior, 1) := by decide +kernel
theorem dX0_branchDistance_27 : decode cX0_branchDistance 27 = .ok (.iload_n 0, 1) := by decide +kernel
theorem dX0_branchDistance_28 : decode cX0_branchDistance 28 = .ok (.bipush 8, 2) := by decide +kernel
theorem dX0_branchDistance_30 : decode cX0_branchDistance 30 = .ok (.iushr, 1) := by decide +kernel
theorem dX0_branchDistance_31 : decode cX0_branchDistance 31 = .ok (.bipush 15, 2) := by decide +kernel
theorem dX0_branchDistance_33 : decode cX0_branchDistance 33 = .ok (.iand, 1) := by decide +kernel
theorem dX0_branchDistance_34 : decode cX0_branchDistance 34 = .ok (.iconst 1, 1) := by decide +kernel
theorem dX0_branchDistance_35 : decode cX0_branchDistance 35 = .ok (.ishl, 1) := by decide +kernel
theorem dX0_branchDistance_36 : decode cX0_branchDistance 36 = .ok (.ior, 1) := by decide +kernel
theorem dX0_branchDistance_37 : decode cX0_branchDistance 37 = .ok (.ireturn, 1) := by decide +kernel
theorem dX0_jumpDistance_0 : decode cX0_jumpDistance 0 = .ok (.iload_n 0, 1) := by decide +kernel
theorem dX0_jumpDistance_1 : decode cX0_jumpDistance 1 = .ok (.bipush 31, 2) := by decide +kernel
theorem dX0_jumpDistance_3 : decode cX0_jumpDistance 3 = .ok (.ishr, 1) := by decide +kernel
theorem dX0_jumpDistance_4 : decode cX0_jumpDistance 4 = .ok (.bipush 20, 2) := by decide +kernel
theorem dX0_jumpDistance_6 : decode cX0_jumpDistance 6 = .ok (.ishl, 1) := by decide +kernel
theorem dX0_jumpDistance_7 : decode cX0_jumpDistance 7 = .ok (.iload_n 0, 1) := by decide +kernel
theorem dX0_jumpDistance_8 : decode cX0_jumpDistance 8 = .ok (.bipush 12, 2) := by decide +kernel
theorem dX0_jumpDistance_10 : decode cX0_jumpDistance 10 = .ok (.iushr, 1) := by decide +kernel
theorem dX0_jumpDistance_11 : decode cX0_jumpDistance 11 = .ok (.sipush 255, 3) := by decide +kernel
theorem dX0_jumpDistance_14 : decode cX0_jumpDistance 14 = .ok (.iand, 1) := by decide +kernel
theorem dX0_jumpDistance_15 : decode cX0_jumpDistance 15 = .ok (.bipush 12, 2) := by decide +kernel
theorem dX0_jumpDistance_17 : decode cX0_jumpDistance 17 = .ok (.ishl, 1) := by decide +kernel
theorem dX0_jumpDistance_18 : decode cX0_jumpDistance 18 = .ok (.ior, 1) := by decide +kernel
theorem dX0_jumpDistance_19 : decode cX0_jumpDistance 19 = .ok (.iload_n 0, 1) := by decide +kernel
theorem dX0_jumpDistance_20 : decode cX0_jumpDistance 20 = .ok (.bipush 20, 2) := by decide +kernel
theorem dX0_jumpDistance_22 : decode cX0_jumpDistance 22 = .ok (.iushr, 1) := by decide +kernel
theorem dX0_jumpDistance_23 : decode cX0_jumpDistance 23 = .ok (.iconst 1, 1) := by decide +kernel
theorem dX0_jumpDistance_24 : decode cX0_jumpDistance 24 = .ok (.iand, 1) := by decide +kernel
theorem dX0_jumpDistance_25 : decode cX0_jumpDistance 25 = .ok (.bipush 11, 2) := by decide +kernel
theorem dX0_jumpDistance_27 : decode cX0_jumpDistance 27 = .ok (.ishl, 1) := by decide +kernel
theorem dX0_jumpDistance_28 : decode cX0_jumpDistance 28 = .ok (.ior, 1) := by decide +kernel
theorem dX0_jumpDistance_29 : decode cX0_jumpDistance 29 = .ok (.iload_n 0, 1) := by decide +kernel
theorem dX0_jumpDistance_30 : decode cX0_jumpDistance 30 = .ok (.bipush 21, 2) := by decide +kernel
theorem dX0_jumpDistance_32 : decode cX0_jumpDistance 32 = .ok (.iushr, 1) := by decide +kernel
theorem dX0_jumpDistance_33 : decode cX0_jumpDistance 33 = .ok (.sipush 1023, 3) := by decide +kernel
theorem dX0_jumpDistance_36 : decode cX0_jumpDistance 36 = .ok (.iand, 1) := by decide +kernel
theorem dX0_jumpDistance_37 : decode cX0_jumpDistance 37 = .ok (.iconst 1, 1) := by decide +kernel
theorem dX0_jumpDistance_38 : decode cX0_jumpDistance 38 = .ok (.ishl, 1) := by decide +kernel
theorem dX0_jumpDistance_39 : decode cX0_jumpDistance 39 = .ok (.ior, 1) := by decide +kernel
theorem dX0_jumpDistance_40 : decode cX0_jumpDistance 40 = .ok (.ireturn, 1) := by decide +kernel
theorem dX0_perform_0 : decode cX0_perform 0 = .ok (.iload_n 1, 1) := by decide +kernel
theorem dX0_perform_1 : decode cX0_perform 1 = .ok (.bipush 127, 2) := by decide +kernel
theorem dX0_perform_3 : decode cX0_perform 3 = .ok (.iand, 1) := by decide +kernel
theorem dX0_perform_4 : decode cX0_perform 4 = .ok (.lookupswitch 230 #[(3, 180), (15, 204), (19, 192), (23, 110), (35, 186), (51, 198), (55, 100), (99, 174), (103, 140), (111, 125), (115, 224)], 100) := by decide +kernel
theorem dX0_perform_104 : decode cX0_perform 104 = .ok (.aload_n 0, 1) := by decide +kernel
theorem dX0_perform_105 : decode cX0_perform 105 = .ok (.iload_n 1, 1) := by decide +kernel
theorem dX0_perform_106 : decode cX0_perform 106 = .ok (.iload_n 1, 1) := by decide +kernel
theorem dX0_perform_107 : decode cX0_perform 107 = .ok (.invokestatic 119, 3) := by decide +kernel
theorem dX0_perform_110 : decode cX0_perform 110 = .ok (.invokevirtual 122, 3) := by decide +kernel
theorem dX0_perform_113 : decode cX0_perform 113 = .ok (.ireturn, 1) := by decide +kernel
theorem dX0_perform_114 : decode cX0_perform 114 = .ok (.aload_n 0, 1) := by decide +kernel
theorem dX0_perform_115 : decode cX0_perform 115 = .ok (.iload_n 1, 1) := by decide +kernel
theorem dX0_perform_116 : decode cX0_perform 116 = .ok (.aload_n 0, 1) := by decide +kernel
theorem dX0_perform_117 : decode cX0_perform 117 = .ok (.getfield 20, 3) := by decide +kernel
theorem dX0_perform_120 : decode cX0_perform 120 = .ok (.iload_n 1, 1) := by decide +kernel
theorem dX0_perform_121 : decode cX0_perform 121 = .ok (.invokestatic 119, 3) := by decide +kernel
theorem dX0_perform_124 : decode cX0_perform 124 = .ok (.iadd, 1) := by decide +kernel
theorem dX0_perform_125 : decode cX0_perform 125 = .ok (.invokevirtual 122, 3) := by decide +kernel
theorem dX0_perform_128 : decode cX0_perform 128 = .ok (.ireturn, 1) := by decide +kernel
theorem dX0_perform_129 : decode cX0_perform 129 = .ok (.aload_n 0, 1) := by decide +kernel
theorem dX0_perform_130 : decode cX0_perform 130 = .ok (.iload_n 1, 1) := by decide +kernel
theorem dX0_perform_131 : decode cX0_perform 131 = .ok (.aload_n 0, 1) := by decide +kernel
theorem dX0_perform_132 : decode cX0_perform 132 = .ok (.getfield 20, 3) := by decide +kernel
theorem dX0_perform_135 : decode cX0_perform 135 = .ok (.iload_n 1, 1) := by decide +kernel
theorem dX0_perform_136 : decode cX0_perform 136 = .ok (.invokestatic 125, 3) := by decide +kernel
theorem dX0_perform_139 : decode cX0_perform 139 = .ok (.iadd, 1) := by decide +kernel
theorem dX0_perform_140 : decode cX0_perform 140 = .ok (.invokevirtual 128, 3) := by decide +kernel
theorem dX0_perform_143 : decode cX0_perform 143 = .ok (.ireturn, 1) := by decide +kernel
theorem dX0_perform_144 : decode cX0_perform 144 = .ok (.iload_n 1, 1) := by decide +kernel
theorem dX0_perform_145 : decode cX0_perform 145 = .ok (.invokestatic 131, 3) := by decide +kernel
theorem dX0_perform_148 : decode cX0_perform 148 = .ok (.ifCond .ne 24, 3) := by decide +kernel
theorem dX0_perform_151 : decode cX0_perform 151 = .ok (.aload_n 0, 1) := by decide +kernel
theorem dX0_perform_152 : decode cX0_perform 152 = .ok (.iload_n 1, 1) := by decide +kernel
theorem dX0_perform_153 : decode cX0_perform 153 = .ok (.aload_n 0, 1) := by decide +kernel
theorem dX0_perform_154 : decode cX0_perform 154 = .ok (.iload_n 1, 1) := by decide +kernel
theorem dX0_perform_155 : decode cX0_perform 155 = .ok (.invokevirtual 134, 3) := by decide +kernel
theorem dX0_perform_158 : decode cX0_perform 158 = .ok (.iload_n 1, 1) := by decide +kernel
theorem dX0_perform_159 : decode cX0_perform 159 = .ok (.invokestatic 137, 3) := by decide +kernel
theorem dX0_perform_162 : decode cX0_perform 162 = .ok (.iadd, 1) := by decide +kernel
theorem dX0_perform_163 : decode cX0_perform 163 = .ok (.bipush (-2), 2) := by decide +kernel
theorem dX0_perform_165 : decode cX0_perform 165 = .ok (.iand, 1) := by decide +kernel
theorem dX0_perform_166 : decode cX0_perform 166 = .ok (.invokevirtual 128, 3) := by decide +kernel
theorem dX0_perform_169 : decode cX0_perform 169 = .ok (.goto 8, 3) := by decide +kernel
theorem dX0_perform_172 : decode cX0_perform 172 = .ok (.aload_n 0, 1) := by decide +kernel
theorem dX0_perform_173 : decode cX0_perform 173 = .ok (.iload_n 1, 1) := by decide +kernel
theorem dX0_perform_174 : decode cX0_perform 174 = .ok (.invokevirtual 140, 3) := by decide +kernel
theorem dX0_perform_177 : decode cX0_perform 177 = .ok (.ireturn, 1) := by decide +kernel
theorem dX0_perform_178 : decode cX0_perform 178 = .ok (.aload_n 0, 1) := by decide +kernel
theorem dX0_perform_179 : decode cX0_perform 179 = .ok (.iload_n 1, 1) := by decide +kernel
theorem dX0_perform_180 : decode cX0_perform 180 = .ok (.invokevirtual 143, 3) := by decide +kernel
theorem dX0_perform_183 : decode cX0_perform 183 = .ok (.ireturn, 1) := by decide +kernel
theorem dX0_perform_184 : decode cX0_perform 184 = .ok (.aload_n 0, 1) := by decide +kernel
theorem dX0_perform_185 : decode cX0_perform 185 = .ok (.iload_n 1, 1) := by decide +kernel
theorem dX0_perform_186 : decode cX0_perform 186 = .ok (.invokevirtual 146, 3) := by decide +kernel
theorem dX0_perform_189 : decode cX0_perform 189 = .ok (.ireturn, 1) := by decide +kernel
theorem dX0_perform_190 : decode cX0_perform 190 = .ok (.aload_n 0, 1) := by decide +kernel
theorem dX0_perform_191 : decode cX0_perform 191 = .ok (.iload_n 1, 1) := by decide +kernel
theorem dX0_perform_192 : decode cX0_perform 192 = .ok (.invokevirtual 149, 3) := by decide +kernel
theorem dX0_perform_195 : decode cX0_perform 195 = .ok (.ireturn, 1) := by decide +kernel
theorem dX0_perform_196 : decode cX0_perform 196 = .ok (.aload_n 0, 1) := by decide +kernel
theorem dX0_perform_197 : decode cX0_perform 197 = .ok (.iload_n 1, 1) := by decide +kernel
theorem dX0_perform_198 : decode cX0_perform 198 = .ok (.invokevirtual 152, 3) := by decide +kernel
theorem dX0_perform_201 : decode cX0_perform 201 = .ok (.ireturn, 1) := by decide +kernel
theorem dX0_perform_202 : decode cX0_perform 202 = .ok (.aload_n 0, 1) := by decide +kernel
theorem dX0_perform_203 : decode cX0_perform 203 = .ok (.iload_n 1, 1) := by decide +kernel
theorem dX0_perform_204 : decode cX0_perform 204 = .ok (.invokevirtual 155, 3) := by decide +kernel
theorem dX0_perform_207 : decode cX0_perform 207 = .ok (.ireturn, 1) := by decide +kernel
theorem dX0_perform_208 : decode cX0_perform 208 = .ok (.iload_n 1, 1) := by decide +kernel
theorem dX0_perform_209 : decode cX0_perform 209 = .ok (.invokestatic 131, 3) := by decide +kernel
theorem dX0_perform_212 : decode cX0_perform 212 = .ok (.ifCond .ne 10, 3) := by decide +kernel
theorem dX0_perform_215 : decode cX0_perform 215 = .ok (.aload_n 0, 1) := by decide +kernel
theorem dX0_perform_216 : decode cX0_perform 216 = .ok (.invokevirtual 115, 3) := by decide +kernel
theorem dX0_perform_219 : decode cX0_perform 219 = .ok (.goto 8, 3) := by decide +kernel
theorem dX0_perform_222 : decode cX0_perform 222 = .ok (.aload_n 0, 1) := by decide +kernel
theorem dX0_perform_223 : decode cX0_perform 223 = .ok (.iload_n 1, 1) := by decide +kernel
theorem dX0_perform_224 : decode cX0_perform 224 = .ok (.invokevirtual 140, 3) := by decide +kernel
theorem dX0_perform_227 : decode cX0_perform 227 = .ok (.ireturn, 1) := by decide +kernel
theorem dX0_perform_228 : decode cX0_perform 228 = .ok (.aload_n 0, 1) := by decide +kernel
theorem dX0_perform_229 : decode cX0_perform 229 = .ok (.iload_n 1, 1) := by decide +kernel
theorem dX0_perform_230 : decode cX0_perform 230 = .ok (.invokevirtual 158, 3) := by decide +kernel
theorem dX0_perform_233 : decode cX0_perform 233 = .ok (.ireturn, 1) := by decide +kernel
theorem dX0_perform_234 : decode cX0_perform 234 = .ok (.aload_n 0, 1) := by decide +kernel
theorem dX0_perform_235 : decode cX0_perform 235 = .ok (.iload_n 1, 1) := by decide +kernel
theorem dX0_perform_236 : decode cX0_perform 236 = .ok (.invokevirtual 140, 3) := by decide +kernel
theorem dX0_perform_239 : decode cX0_perform 239 = .ok (.ireturn, 1) := by decide +kernel
theorem dX0_jump_0 : decode cX0_jump 0 = .ok (.iload_n 2, 1) := by decide +kernel
theorem dX0_jump_1 : decode cX0_jump 1 = .ok (.iconst 3, 1) := by decide +kernel
theorem dX0_jump_2 : decode cX0_jump 2 = .ok (.iand, 1) := by decide +kernel
theorem dX0_jump_3 : decode cX0_jump 3 = .ok (.ifCond .eq 10, 3) := by decide +kernel
theorem dX0_jump_6 : decode cX0_jump 6 = .ok (.aload_n 0, 1) := by decide +kernel
theorem dX0_jump_7 : decode cX0_jump 7 = .ok (.iconst 0, 1) := by decide +kernel
theorem dX0_jump_8 : decode cX0_jump 8 = .ok (.iload_n 2, 1) := by decide +kernel
theorem dX0_jump_9 : decode cX0_jump 9 = .ok (.invokevirtual 96, 3) := by decide +kernel
theorem dX0_jump_12 : decode cX0_jump 12 = .ok (.ireturn, 1) := by decide +kernel
theorem dX0_jump_13 : decode cX0_jump 13 = .ok (.aload_n 0, 1) := by decide +kernel
theorem dX0_jump_14 : decode cX0_jump 14 = .ok (.iload_n 1, 1) := by decide +kernel
theorem dX0_jump_15 : decode cX0_jump 15 = .ok (.aload_n 0, 1) := by decide +kernel
theorem dX0_jump_16 : decode cX0_jump 16 = .ok (.getfield 20, 3) := by decide +kernel
theorem dX0_jump_19 : decode cX0_jump 19 = .ok (.iconst 4, 1) := by decide +kernel
theorem dX0_jump_20 : decode cX0_jump 20 = .ok (.iadd, 1) := by decide +kernel
theorem dX0_jump_21 : decode cX0_jump 21 = .ok (.invokevirtual 111, 3) := by decide +kernel
theorem dX0_jump_24 : decode cX0_jump 24 = .ok (.aload_n 0, 1) := by decide +kernel
theorem dX0_jump_25 : decode cX0_jump 25 = .ok (.iload_n 2, 1) := by decide +kernel
theorem dX0_jump_26 : decode cX0_jump 26 = .ok (.putfield 20, 3) := by decide +kernel
theorem dX0_jump_29 : decode cX0_jump 29 = .ok (.iconst 1, 1) := by decide +kernel
theorem dX0_jump_30 : decode cX0_jump 30 = .ok (.ireturn, 1) := by decide +kernel
theorem dX0_branch_0 : decode cX0_branch 0 = .ok (.iload_n 1, 1) := by decide +kernel
theorem dX0_branch_1 : decode cX0_branch 1 = .ok (.invokestatic 131, 3) := by decide +kernel
theorem dX0_branch_4 : decode cX0_branch 4 = .ok (.istore_n 2, 1) := by decide +kernel
theorem dX0_branch_5 : decode cX0_branch 5 = .ok (.iload_n 2, 1) := by decide +kernel
theorem dX0_branch_6 : decode cX0_branch 6 = .ok (.iconst 2, 1) := by decide +kernel
theorem dX0_branch_7 : decode cX0_branch 7 = .ok (.if_icmp .eq 8, 3) := by decide +kernel
theorem dX0_branch_10 : decode cX0_branch 10 = .ok (.iload_n 2, 1) := by decide +kernel
theorem dX0_branch_11 : decode cX0_branch 11 = .ok (.iconst 3, 1) := by decide +kernel
theorem dX0_branch_12 : decode cX0_branch 12 = .ok (.if_icmp .ne 9, 3) := by decide +kernel
theorem dX0_branch_15 : decode cX0_branch 15 = .ok (.aload_n 0, 1) := by decide +kernel
theorem dX0_branch_16 : decode cX0_branch 16 = .ok (.iload_n 1, 1) := by decide +kernel
theorem dX0_branch_17 : decode cX0_branch 17 = .ok (.invokevirtual 140, 3) := by decide +kernel
theorem dX0_branch_20 : decode cX0_branch 20 = .ok (.ireturn, 1) := by decide +kernel
theorem dX0_branch_21 : decode cX0_branch 21 = .ok (.iload_n 2, 1) := by decide +kernel
theorem dX0_branch_22 : decode cX0_branch 22 = .ok (.aload_n 0, 1) := by decide +kernel
theorem dX0_branch_23 : decode cX0_branch 23 = .ok (.iload_n 1, 1) := by decide +kernel
theorem dX0_branch_24 : decode cX0_branch 24 = .ok (.invokevirtual 134, 3) := by decide +kernel
theorem dX0_branch_27 : decode cX0_branch 27 = .ok (.aload_n 0, 1) := by decide +kernel
theorem dX0_branch_28 : decode cX0_branch 28 = .ok (.iload_n 1, 1) := by decide +kernel
theorem dX0_branch_29 : decode cX0_branch 29 = .ok (.invokevirtual 161, 3) := by decide +kernel
theorem dX0_branch_32 : decode cX0_branch 32 = .ok (.invokestatic 164, 3) := by decide +kernel
theorem dX0_branch_35 : decode cX0_branch 35 = .ok (.ifCond .ne 8, 3) := by decide +kernel
theorem dX0_branch_38 : decode cX0_branch 38 = .ok (.aload_n 0, 1) := by decide +kernel
theorem dX0_branch_39 : decode cX0_branch 39 = .ok (.invokevirtual 115, 3) := by decide +kernel
theorem dX0_branch_42 : decode cX0_branch 42 = .ok (.ireturn, 1) := by decide +kernel
theorem dX0_branch_43 : decode cX0_branch 43 = .ok (.aload_n 0, 1) := by decide +kernel
theorem dX0_branch_44 : decode cX0_branch 44 = .ok (.getfield 20, 3) := by decide +kernel
theorem dX0_branch_47 : decode cX0_branch 47 = .ok (.iload_n 1, 1) := by decide +kernel
theorem dX0_branch_48 : decode cX0_branch 48 = .ok (.invokestatic 168, 3) := by decide +kernel
theorem dX0_branch_51 : decode cX0_branch 51 = .ok (.iadd, 1) := by decide +kernel
theorem dX0_branch_52 : decode cX0_branch 52 = .ok (.istore_n 3, 1) := by decide +kernel
theorem dX0_branch_53 : decode cX0_branch 53 = .ok (.iload_n 3, 1) := by decide +kernel
theorem dX0_branch_54 : decode cX0_branch 54 = .ok (.iconst 3, 1) := by decide +kernel
theorem dX0_branch_55 : decode cX0_branch 55 = .ok (.iand, 1) := by decide +kernel
theorem dX0_branch_56 : decode cX0_branch 56 = .ok (.ifCond .eq 10, 3) := by decide +kernel
theorem dX0_branch_59 : decode cX0_branch 59 = .ok (.aload_n 0, 1) := by decide +kernel
theorem dX0_branch_60 : decode cX0_branch 60 = .ok (.iconst 0, 1) := by decide +kernel
theorem dX0_branch_61 : decode cX0_branch 61 = .ok (.iload_n 3, 1) := by decide +kernel
theorem dX0_branch_62 : decode cX0_branch 62 = .ok (.invokevirtual 96, 3) := by decide +kernel
theorem dX0_branch_65 : decode cX0_branch 65 = .ok (.ireturn, 1) := by decide +kernel
theorem dX0_branch_66 : decode cX0_branch 66 = .ok (.aload_n 0, 1) := by decide +kernel
theorem dX0_branch_67 : decode cX0_branch 67 = .ok (.iload_n 3, 1) := by decide +kernel
theorem dX0_branch_68 : decode cX0_branch 68 = .ok (.putfield 20, 3) := by decide +kernel
theorem dX0_branch_71 : decode cX0_branch 71 = .ok (.iconst 1, 1) := by decide +kernel
theorem dX0_branch_72 : decode cX0_branch 72 = .ok (.ireturn, 1) := by decide +kernel
theorem dX0_isTaken_0 : decode cX0_isTaken 0 = .ok (.iload_n 0, 1) := by decide +kernel
theorem dX0_isTaken_1 : decode cX0_isTaken 1 = .ok (.iconst 2, 1) := by decide +kernel
theorem dX0_isTaken_2 : decode cX0_isTaken 2 = .ok (.if_icmp .ge 17, 3) := by decide +kernel
theorem dX0_isTaken_5 : decode cX0_isTaken 5 = .ok (.iload_n 1, 1) := by decide +kernel
theorem dX0_isTaken_6 : decode cX0_isTaken 6 = .ok (.iload_n 2, 1) := by decide +kernel
theorem dX0_isTaken_7 : decode cX0_isTaken 7 = .ok (.if_icmp .ne 7, 3) := by decide +kernel
theorem dX0_isTaken_10 : decode cX0_isTaken 10 = .ok (.iconst 1, 1) := by decide +kernel
theorem dX0_isTaken_11 : decode cX0_isTaken 11 = .ok (.goto 4, 3) := by decide +kernel
theorem dX0_isTaken_14 : decode cX0_isTaken 14 = .ok (.iconst 0, 1) := by decide +kernel
theorem dX0_isTaken_15 : decode cX0_isTaken 15 = .ok (.istore_n 3, 1) := by decide +kernel
theorem dX0_isTaken_16 : decode cX0_isTaken 16 = .ok (.goto 28, 3) := by decide +kernel
theorem dX0_isTaken_19 : decode cX0_isTaken 19 = .ok (.iload_n 0, 1) := by decide +kernel
theorem dX0_isTaken_20 : decode cX0_isTaken 20 = .ok (.bipush 6, 2) := by decide +kernel
theorem dX0_isTaken_22 : decode cX0_isTaken 22 = .ok (.if_icmp .ge 16, 3) := by decide +kernel
theorem dX0_isTaken_25 : decode cX0_isTaken 25 = .ok (.iload_n 1, 1) := by decide +kernel
theorem dX0_isTaken_26 : decode cX0_isTaken 26 = .ok (.iload_n 2, 1) := by decide +kernel
theorem dX0_isTaken_27 : decode cX0_isTaken 27 = .ok (.if_icmp .ge 7, 3) := by decide +kernel
theorem dX0_isTaken_30 : decode cX0_isTaken 30 = .ok (.iconst 1, 1) := by decide +kernel
theorem dX0_isTaken_31 : decode cX0_isTaken 31 = .ok (.goto 12, 3) := by decide +kernel
theorem dX0_isTaken_34 : decode cX0_isTaken 34 = .ok (.iconst 0, 1) := by decide +kernel
theorem dX0_isTaken_35 : decode cX0_isTaken 35 = .ok (.goto 8, 3) := by decide +kernel
theorem dX0_isTaken_38 : decode cX0_isTaken 38 = .ok (.iload_n 1, 1) := by decide +kernel
theorem dX0_isTaken_39 : decode cX0_isTaken 39 = .ok (.iload_n 2, 1) := by decide +kernel
theorem dX0_isTaken_40 : decode cX0_isTaken 40 = .ok (.invokestatic 171, 3) := by decide +kernel
theorem dX0_isTaken_43 : decode cX0_isTaken 43 = .ok (.istore_n 3, 1) := by decide +kernel
theorem dX0_isTaken_44 : decode cX0_isTaken 44 = .ok (.iload_n 3, 1) := by decide +kernel
theorem dX0_isTaken_45 : decode cX0_isTaken 45 = .ok (.iload_n 0, 1) := by decide +kernel
theorem dX0_isTaken_46 : decode cX0_isTaken 46 = .ok (.iconst 1, 1) := by decide +kernel
theorem dX0_isTaken_47 : decode cX0_isTaken 47 = .ok (.iand, 1) := by decide +kernel
theorem dX0_isTaken_48 : decode cX0_isTaken 48 = .ok (.ifCond .ne 7, 3) := by decide +kernel
theorem dX0_isTaken_51 : decode cX0_isTaken 51 = .ok (.iconst 1, 1) := by decide +kernel
theorem dX0_isTaken_52 : decode cX0_isTaken 52 = .ok (.goto 4, 3) := by decide +kernel
theorem dX0_isTaken_55 : decode cX0_isTaken 55 = .ok (.iconst 0, 1) := by decide +kernel
theorem dX0_isTaken_56 : decode cX0_isTaken 56 = .ok (.if_icmp .ne 7, 3) := by decide +kernel
theorem dX0_isTaken_59 : decode cX0_isTaken 59 = .ok (.iconst 1, 1) := by decide +kernel
theorem dX0_isTaken_60 : decode cX0_isTaken 60 = .ok (.goto 4, 3) := by decide +kernel
theorem dX0_isTaken_63 : decode cX0_isTaken 63 = .ok (.iconst 0, 1) := by decide +kernel
theorem dX0_isTaken_64 : decode cX0_isTaken 64 = .ok (.ireturn, 1) := by decide +kernel
theorem dX0_isBelow_0 : decode cX0_isBelow 0 = .ok (.iload_n 0, 1) := by decide +kernel
theorem dX0_isBelow_1 : decode cX0_isBelow 1 = .ok (.i2l, 1) := by decide +kernel
theorem dX0_isBelow_2 : decode cX0_isBelow 2 = .ok (.ldc2_w 174, 3) := by decide +kernel
theorem dX0_isBelow_5 : decode cX0_isBelow 5 = .ok (.land, 1) := by decide +kernel
theorem dX0_isBelow_6 : decode cX0_isBelow 6 = .ok (.iload_n 1, 1) := by decide +kernel
theorem dX0_isBelow_7 : decode cX0_isBelow 7 = .ok (.i2l, 1) := by decide +kernel
theorem dX0_isBelow_8 : decode cX0_isBelow 8 = .ok (.ldc2_w 174, 3) := by decide +kernel
theorem dX0_isBelow_11 : decode cX0_isBelow 11 = .ok (.land, 1) := by decide +kernel
theorem dX0_isBelow_12 : decode cX0_isBelow 12 = .ok (.lcmp, 1) := by decide +kernel
theorem dX0_isBelow_13 : decode cX0_isBelow 13 = .ok (.ifCond .ge 7, 3) := by decide +kernel
theorem dX0_isBelow_16 : decode cX0_isBelow 16 = .ok (.iconst 1, 1) := by decide +kernel
theorem dX0_isBelow_17 : decode cX0_isBelow 17 = .ok (.goto 4, 3) := by decide +kernel
theorem dX0_isBelow_20 : decode cX0_isBelow 20 = .ok (.iconst 0, 1) := by decide +kernel
theorem dX0_isBelow_21 : decode cX0_isBelow 21 = .ok (.ireturn, 1) := by decide +kernel
theorem dX0_load_0 : decode cX0_load 0 = .ok (.iload_n 1, 1) := by decide +kernel
theorem dX0_load_1 : decode cX0_load 1 = .ok (.invokestatic 131, 3) := by decide +kernel
theorem dX0_load_4 : decode cX0_load 4 = .ok (.istore_n 2, 1) := by decide +kernel
theorem dX0_load_5 : decode cX0_load 5 = .ok (.iload_n 2, 1) := by decide +kernel
theorem dX0_load_6 : decode cX0_load 6 = .ok (.iconst 3, 1) := by decide +kernel
theorem dX0_load_7 : decode cX0_load 7 = .ok (.if_icmp .eq 8, 3) := by decide +kernel
theorem dX0_load_10 : decode cX0_load 10 = .ok (.iload_n 2, 1) := by decide +kernel
theorem dX0_load_11 : decode cX0_load 11 = .ok (.iconst 5, 1) := by decide +kernel
theorem dX0_load_12 : decode cX0_load 12 = .ok (.if_icmp .le 9, 3) := by decide +kernel
theorem dX0_load_15 : decode cX0_load 15 = .ok (.aload_n 0, 1) := by decide +kernel
theorem dX0_load_16 : decode cX0_load 16 = .ok (.iload_n 1, 1) := by decide +kernel
theorem dX0_load_17 : decode cX0_load 17 = .ok (.invokevirtual 140, 3) := by decide +kernel
theorem dX0_load_20 : decode cX0_load 20 = .ok (.ireturn, 1) := by decide +kernel
theorem dX0_load_21 : decode cX0_load 21 = .ok (.aload_n 0, 1) := by decide +kernel
theorem dX0_load_22 : decode cX0_load 22 = .ok (.iload_n 1, 1) := by decide +kernel
theorem dX0_load_23 : decode cX0_load 23 = .ok (.invokevirtual 134, 3) := by decide +kernel
theorem dX0_load_26 : decode cX0_load 26 = .ok (.iload_n 1, 1) := by decide +kernel
theorem dX0_load_27 : decode cX0_load 27 = .ok (.invokestatic 137, 3) := by decide +kernel
theorem dX0_load_30 : decode cX0_load 30 = .ok (.iadd, 1) := by decide +kernel
theorem dX0_load_31 : decode cX0_load 31 = .ok (.istore_n 3, 1) := by decide +kernel
theorem dX0_load_32 : decode cX0_load 32 = .ok (.aload_n 0, 1) := by decide +kernel
theorem dX0_load_33 : decode cX0_load 33 = .ok (.iload_n 3, 1) := by decide +kernel
theorem dX0_load_34 : decode cX0_load 34 = .ok (.iconst 1, 1) := by decide +kernel
theorem dX0_load_35 : decode cX0_load 35 = .ok (.iconst 1, 1) := by decide +kernel
theorem dX0_load_36 : decode cX0_load 36 = .ok (.iload_n 2, 1) := by decide +kernel
theorem dX0_load_37 : decode cX0_load 37 = .ok (.iconst 3, 1) := by decide +kernel
theorem dX0_load_38 : decode cX0_load 38 = .ok (.iand, 1) := by decide +kernel
theorem dX0_load_39 : decode cX0_load 39 = .ok (.ishl, 1) := by decide +kernel
theorem dX0_load_40 : decode cX0_load 40 = .ok (.invokevirtual 100, 3) := by decide +kernel
theorem dX0_load_43 : decode cX0_load 43 = .ok (.istore 4, 2) := by decide +kernel
theorem dX0_load_45 : decode cX0_load 45 = .ok (.iload 4, 2) := by decide +kernel
theorem dX0_load_47 : decode cX0_load 47 = .ok (.ifCond .ge 13, 3) := by decide +kernel
theorem dX0_load_50 : decode cX0_load 50 = .ok (.aload_n 0, 1) := by decide +kernel
theorem dX0_load_51 : decode cX0_load 51 = .ok (.iconst (-1), 1) := by decide +kernel
theorem dX0_load_52 : decode cX0_load 52 = .ok (.iload 4, 2) := by decide +kernel
theorem dX0_load_54 : decode cX0_load 54 = .ok (.isub, 1) := by decide +kernel
theorem dX0_load_55 : decode cX0_load 55 = .ok (.iload_n 3, 1) := by decide +kernel
theorem dX0_load_56 : decode cX0_load 56 = .ok (.invokevirtual 96, 3) := by decide +kernel
theorem dX0_load_59 : decode cX0_load 59 = .ok (.ireturn, 1) := by decide +kernel
theorem dX0_load_60 : decode cX0_load 60 = .ok (.aload_n 0, 1) := by decide +kernel
theorem dX0_load_61 : decode cX0_load 61 = .ok (.iload_n 1, 1) := by decide +kernel
theorem dX0_load_62 : decode cX0_load 62 = .ok (.iload_n 2, 1) := by decide +kernel
theorem dX0_load_63 : decode cX0_load 63 = .ok (.aload_n 0, 1) := by decide +kernel
theorem dX0_load_64 : decode cX0_load 64 = .ok (.getfield 10, 3) := by decide +kernel
theorem dX0_load_67 : decode cX0_load 67 = .ok (.iload 4, 2) := by decide +kernel
theorem dX0_load_69 : decode cX0_load 69 = .ok (.iconst 2, 1) := by decide +kernel
theorem dX0_load_70 : decode cX0_load 70 = .ok (.iushr, 1) := by decide +kernel
theorem dX0_load_71 : decode cX0_load 71 = .ok (.iaload, 1) := by decide +kernel
theorem dX0_load_72 : decode cX0_load 72 = .ok (.iload 4, 2) := by decide +kernel
theorem dX0_load_74 : decode cX0_load 74 = .ok (.iconst 3, 1) := by decide +kernel
theorem dX0_load_75 : decode cX0_load 75 = .ok (.iand, 1) := by decide +kernel
theorem dX0_load_76 : decode cX0_load 76 = .ok (.iconst 3, 1) := by decide +kernel
theorem dX0_load_77 : decode cX0_load 77 = .ok (.ishl, 1) := by decide +kernel
theorem dX0_load_78 : decode cX0_load 78 = .ok (.iushr, 1) := by decide +kernel
theorem dX0_load_79 : decode cX0_load 79 = .ok (.invokestatic 176, 3) := by decide +kernel
theorem dX0_load_82 : decode cX0_load 82 = .ok (.invokevirtual 122, 3) := by decide +kernel
theorem dX0_load_85 : decode cX0_load 85 = .ok (.ireturn, 1) := by decide +kernel
theorem dX0_extend_0 : decode cX0_extend 0 = .ok (.iload_n 0, 1) := by decide +kernel
theorem dX0_extend_1 : decode cX0_extend 1 = .ok (.tableswitch 66 0 5 #[39, 47, 66, 66, 55, 61], 39) := by decide +kernel
theorem dX0_extend_40 : decode cX0_extend 40 = .ok (.iload_n 1, 1) := by decide +kernel
theorem dX0_extend_41 : decode cX0_extend 41 = .ok (.bipush 24, 2) := by decide +kernel
theorem dX0_extend_43 : decode cX0_extend 43 = .ok (.ishl, 1) := by decide +kernel
theorem dX0_extend_44 : decode cX0_extend 44 = .ok (.bipush 24, 2) := by decide +kernel
theorem dX0_extend_46 : decode cX0_extend 46 = .ok (.ishr, 1) := by decide +kernel
theorem dX0_extend_47 : decode cX0_extend 47 = .ok (.ireturn, 1) := by decide +kernel
theorem dX0_extend_48 : decode cX0_extend 48 = .ok (.iload_n 1, 1) := by decide +kernel
theorem dX0_extend_49 : decode cX0_extend 49 = .ok (.bipush 16, 2) := by decide +kernel
theorem dX0_extend_51 : decode cX0_extend 51 = .ok (.ishl, 1) := by decide +kernel
theorem dX0_extend_52 : decode cX0_extend 52 = .ok (.bipush 16, 2) := by decide +kernel
theorem dX0_extend_54 : decode cX0_extend 54 = .ok (.ishr, 1) := by decide +kernel
theorem dX0_extend_55 : decode cX0_extend 55 = .ok (.ireturn, 1) := by decide +kernel
theorem dX0_extend_56 : decode cX0_extend 56 = .ok (.iload_n 1, 1) := by decide +kernel
theorem dX0_extend_57 : decode cX0_extend 57 = .ok (.sipush 255, 3) := by decide +kernel
theorem dX0_extend_60 : decode cX0_extend 60 = .ok (.iand, 1) := by decide +kernel
theorem dX0_extend_61 : decode cX0_extend 61 = .ok (.ireturn, 1) := by decide +kernel
theorem dX0_extend_62 : decode cX0_extend 62 = .ok (.iload_n 1, 1) := by decide +kernel
theorem dX0_extend_63 : decode cX0_extend 63 = .ok (.ldc 179, 2) := by decide +kernel
theorem dX0_extend_65 : decode cX0_extend 65 = .ok (.iand, 1) := by decide +kernel
theorem dX0_extend_66 : decode cX0_extend 66 = .ok (.ireturn, 1) := by decide +kernel
theorem dX0_extend_67 : decode cX0_extend 67 = .ok (.iload_n 1, 1) := by decide +kernel
theorem dX0_extend_68 : decode cX0_extend 68 = .ok (.ireturn, 1) := by decide +kernel
theorem dX0_store_0 : decode cX0_store 0 = .ok (.iload_n 1, 1) := by decide +kernel
theorem dX0_store_1 : decode cX0_store 1 = .ok (.invokestatic 131, 3) := by decide +kernel
theorem dX0_store_4 : decode cX0_store 4 = .ok (.istore_n 2, 1) := by decide +kernel
theorem dX0_store_5 : decode cX0_store 5 = .ok (.iload_n 2, 1) := by decide +kernel
theorem dX0_store_6 : decode cX0_store 6 = .ok (.iconst 2, 1) := by decide +kernel
theorem dX0_store_7 : decode cX0_store 7 = .ok (.if_icmp .le 9, 3) := by decide +kernel
theorem dX0_store_10 : decode cX0_store 10 = .ok (.aload_n 0, 1) := by decide +kernel
theorem dX0_store_11 : decode cX0_store 11 = .ok (.iload_n 1, 1) := by decide +kernel
theorem dX0_store_12 : decode cX0_store 12 = .ok (.invokevirtual 140, 3) := by decide +kernel
theorem dX0_store_15 : decode cX0_store 15 = .ok (.ireturn, 1) := by decide +kernel
theorem dX0_store_16 : decode cX0_store 16 = .ok (.aload_n 0, 1) := by decide +kernel
theorem dX0_store_17 : decode cX0_store 17 = .ok (.iload_n 1, 1) := by decide +kernel
theorem dX0_store_18 : decode cX0_store 18 = .ok (.invokevirtual 134, 3) := by decide +kernel
theorem dX0_store_21 : decode cX0_store 21 = .ok (.iload_n 1, 1) := by decide +kernel
theorem dX0_store_22 : decode cX0_store 22 = .ok (.invokestatic 180, 3) := by decide +kernel
theorem dX0_store_25 : decode cX0_store 25 = .ok (.iadd, 1) := by decide +kernel
theorem dX0_store_26 : decode cX0_store 26 = .ok (.istore_n 3, 1) := by decide +kernel
theorem dX0_store_27 : decode cX0_store 27 = .ok (.aload_n 0, 1) := by decide +kernel
theorem dX0_store_28 : decode cX0_store 28 = .ok (.iload_n 3, 1) := by decide +kernel
theorem dX0_store_29 : decode cX0_store 29 = .ok (.iconst 2, 1) := by decide +kernel
theorem dX0_store_30 : decode cX0_store 30 = .ok (.iconst 1, 1) := by decide +kernel
theorem dX0_store_31 : decode cX0_store 31 = .ok (.iload_n 2, 1) := by decide +kernel
theorem dX0_store_32 : decode cX0_store 32 = .ok (.ishl, 1) := by decide +kernel
theorem dX0_store_33 : decode cX0_store 33 = .ok (.invokevirtual 100, 3) := by decide +kernel
theorem dX0_store_36 : decode cX0_store 36 = .ok (.istore 4, 2) := by decide +kernel
theorem dX0_store_38 : decode cX0_store 38 = .ok (.iload 4, 2) := by decide +kernel
theorem dX0_store_40 : decode cX0_store 40 = .ok (.ifCond .ge 13, 3) := by decide +kernel
theorem dX0_store_43 : decode cX0_store 43 = .ok (.aload_n 0, 1) := by decide +kernel
theorem dX0_store_44 : decode cX0_store 44 = .ok (.iconst (-1), 1) := by decide +kernel
theorem dX0_store_45 : decode cX0_store 45 = .ok (.iload 4, 2) := by decide +kernel
theorem dX0_store_47 : decode cX0_store 47 = .ok (.isub, 1) := by decide +kernel
theorem dX0_store_48 : decode cX0_store 48 = .ok (.iload_n 3, 1) := by decide +kernel
theorem dX0_store_49 : decode cX0_store 49 = .ok (.invokevirtual 96, 3) := by decide +kernel
theorem dX0_store_52 : decode cX0_store 52 = .ok (.ireturn, 1) := by decide +kernel
theorem dX0_store_53 : decode cX0_store 53 = .ok (.iload 4, 2) := by decide +kernel
theorem dX0_store_55 : decode cX0_store 55 = .ok (.iconst 3, 1) := by decide +kernel
theorem dX0_store_56 : decode cX0_store 56 = .ok (.iand, 1) := by decide +kernel
theorem dX0_store_57 : decode cX0_store 57 = .ok (.iconst 3, 1) := by decide +kernel
theorem dX0_store_58 : decode cX0_store 58 = .ok (.ishl, 1) := by decide +kernel
theorem dX0_store_59 : decode cX0_store 59 = .ok (.istore 5, 2) := by decide +kernel
theorem dX0_store_61 : decode cX0_store 61 = .ok (.iload_n 2, 1) := by decide +kernel
theorem dX0_store_62 : decode cX0_store 62 = .ok (.invokestatic 183, 3) := by decide +kernel
theorem dX0_store_65 : decode cX0_store 65 = .ok (.iload 5, 2) := by decide +kernel
theorem dX0_store_67 : decode cX0_store 67 = .ok (.ishl, 1) := by decide +kernel
theorem dX0_store_68 : decode cX0_store 68 = .ok (.istore 6, 2) := by decide +kernel
theorem dX0_store_70 : decode cX0_store 70 = .ok (.aload_n 0, 1) := by decide +kernel
theorem dX0_store_71 : decode cX0_store 71 = .ok (.getfield 10, 3) := by decide +kernel
theorem dX0_store_74 : decode cX0_store 74 = .ok (.iload 4, 2) := by decide +kernel
theorem dX0_store_76 : decode cX0_store 76 = .ok (.iconst 2, 1) := by decide +kernel
theorem dX0_store_77 : decode cX0_store 77 = .ok (.iushr, 1) := by decide +kernel
theorem dX0_store_78 : decode cX0_store 78 = .ok (.aload_n 0, 1) := by decide +kernel
theorem dX0_store_79 : decode cX0_store 79 = .ok (.getfield 10, 3) := by decide +kernel
theorem dX0_store_82 : decode cX0_store 82 = .ok (.iload 4, 2) := by decide +kernel
theorem dX0_store_84 : decode cX0_store 84 = .ok (.iconst 2, 1) := by decide +kernel
theorem dX0_store_85 : decode cX0_store 85 = .ok (.iushr, 1) := by decide +kernel
theorem dX0_store_86 : decode cX0_store 86 = .ok (.iaload, 1) := by decide +kernel
theorem dX0_store_87 : decode cX0_store 87 = .ok (.iload 6, 2) := by decide +kernel
theorem dX0_store_89 : decode cX0_store 89 = .ok (.iconst (-1), 1) := by decide +kernel
theorem dX0_store_90 : decode cX0_store 90 = .ok (.ixor, 1) := by decide +kernel
theorem dX0_store_91 : decode cX0_store 91 = .ok (.iand, 1) := by decide +kernel
theorem dX0_store_92 : decode cX0_store 92 = .ok (.aload_n 0, 1) := by decide +kernel
theorem dX0_store_93 : decode cX0_store 93 = .ok (.iload_n 1, 1) := by decide +kernel
theorem dX0_store_94 : decode cX0_store 94 = .ok (.invokevirtual 161, 3) := by decide +kernel
theorem dX0_store_97 : decode cX0_store 97 = .ok (.iload 5, 2) := by decide +kernel
theorem dX0_store_99 : decode cX0_store 99 = .ok (.ishl, 1) := by decide +kernel
theorem dX0_store_100 : decode cX0_store 100 = .ok (.iload 6, 2) := by decide +kernel
theorem dX0_store_102 : decode cX0_store 102 = .ok (.iand, 1) := by decide +kernel
theorem dX0_store_103 : decode cX0_store 103 = .ok (.ior, 1) := by decide +kernel
theorem dX0_store_104 : decode cX0_store 104 = .ok (.iastore, 1) := by decide +kernel
theorem dX0_store_105 : decode cX0_store 105 = .ok (.aload_n 0, 1) := by decide +kernel
theorem dX0_store_106 : decode cX0_store 106 = .ok (.invokevirtual 115, 3) := by decide +kernel
theorem dX0_store_109 : decode cX0_store 109 = .ok (.ireturn, 1) := by decide +kernel
theorem dX0_maskOf_0 : decode cX0_maskOf 0 = .ok (.iload_n 0, 1) := by decide +kernel
theorem dX0_maskOf_1 : decode cX0_maskOf 1 = .ok (.ifCond .ne 7, 3) := by decide +kernel
theorem dX0_maskOf_4 : decode cX0_maskOf 4 = .ok (.sipush 255, 3) := by decide +kernel
theorem dX0_maskOf_7 : decode cX0_maskOf 7 = .ok (.ireturn, 1) := by decide +kernel
theorem dX0_maskOf_8 : decode cX0_maskOf 8 = .ok (.iload_n 0, 1) := by decide +kernel
theorem dX0_maskOf_9 : decode cX0_maskOf 9 = .ok (.iconst 1, 1) := by decide +kernel
theorem dX0_maskOf_10 : decode cX0_maskOf 10 = .ok (.if_icmp .ne 8, 3) := by decide +kernel
theorem dX0_maskOf_13 : decode cX0_maskOf 13 = .ok (.ldc 179, 2) := by decide +kernel
theorem dX0_maskOf_15 : decode cX0_maskOf 15 = .ok (.goto 4, 3) := by decide +kernel
theorem dX0_maskOf_18 : decode cX0_maskOf 18 = .ok (.iconst (-1), 1) := by decide +kernel
theorem dX0_maskOf_19 : decode cX0_maskOf 19 = .ok (.ireturn, 1) := by decide +kernel
theorem dX0_calculateWithNumber_0 : decode cX0_calculateWithNumber 0 = .ok (.iload_n 1, 1) := by decide +kernel
theorem dX0_calculateWithNumber_1 : decode cX0_calculateWithNumber 1 = .ok (.invokestatic 131, 3) := by decide +kernel
theorem dX0_calculateWithNumber_4 : decode cX0_calculateWithNumber 4 = .ok (.istore_n 2, 1) := by decide +kernel
theorem dX0_calculateWithNumber_5 : decode cX0_calculateWithNumber 5 = .ok (.iload_n 1, 1) := by decide +kernel
theorem dX0_calculateWithNumber_6 : decode cX0_calculateWithNumber 6 = .ok (.invokestatic 186, 3) := by decide +kernel
theorem dX0_calculateWithNumber_9 : decode cX0_calculateWithNumber 9 = .ok (.istore_n 3, 1) := by decide +kernel
theorem dX0_calculateWithNumber_10 : decode cX0_calculateWithNumber 10 = .ok (.iload_n 2, 1) := by decide +kernel
theorem dX0_calculateWithNumber_11 : decode cX0_calculateWithNumber 11 = .ok (.iconst 1, 1) := by decide +kernel
theorem dX0_calculateWithNumber_12 : decode cX0_calculateWithNumber 12 = .ok (.if_icmp .eq 8, 3) := by decide +kernel
theorem dX0_calculateWithNumber_15 : decode cX0_calculateWithNumber 15 = .ok (.iload_n 2, 1) := by decide +kernel
theorem dX0_calculateWithNumber_16 : decode cX0_calculateWithNumber 16 = .ok (.iconst 5, 1) := by decide +kernel
theorem dX0_calculateWithNumber_17 : decode cX0_calculateWithNumber 17 = .ok (.if_icmp .ne 7, 3) := by decide +kernel
theorem dX0_calculateWithNumber_20 : decode cX0_calculateWithNumber 20 = .ok (.iload_n 3, 1) := by decide +kernel
theorem dX0_calculateWithNumber_21 : decode cX0_calculateWithNumber 21 = .ok (.ifCond .ne 22, 3) := by decide +kernel
theorem dX0_calculateWithNumber_24 : decode cX0_calculateWithNumber 24 = .ok (.aload_n 0, 1) := by decide +kernel
theorem dX0_calculateWithNumber_25 : decode cX0_calculateWithNumber 25 = .ok (.iload_n 1, 1) := by decide +kernel
theorem dX0_calculateWithNumber_26 : decode cX0_calculateWithNumber 26 = .ok (.iload_n 2, 1) := by decide +kernel
theorem dX0_calculateWithNumber_27 : decode cX0_calculateWithNumber 27 = .ok (.aload_n 0, 1) := by decide +kernel
theorem dX0_calculateWithNumber_28 : decode cX0_calculateWithNumber 28 = .ok (.iload_n 1, 1) := by decide +kernel
theorem dX0_calculateWithNumber_29 : decode cX0_calculateWithNumber 29 = .ok (.invokevirtual 134, 3) := by decide +kernel
theorem dX0_calculateWithNumber_32 : decode cX0_calculateWithNumber 32 = .ok (.iload_n 1, 1) := by decide +kernel
theorem dX0_calculateWithNumber_33 : decode cX0_calculateWithNumber 33 = .ok (.invokestatic 137, 3) := by decide +kernel
theorem dX0_calculateWithNumber_36 : decode cX0_calculateWithNumber 36 = .ok (.invokestatic 189, 3) := by decide +kernel
theorem dX0_calculateWithNumber_39 : decode cX0_calculateWithNumber 39 = .ok (.invokevirtual 122, 3) := by decide +kernel
theorem dX0_calculateWithNumber_42 : decode cX0_calculateWithNumber 42 = .ok (.ireturn, 1) := by decide +kernel
theorem dX0_calculateWithNumber_43 : decode cX0_calculateWithNumber 43 = .ok (.iload_n 2, 1) := by decide +kernel
theorem dX0_calculateWithNumber_44 : decode cX0_calculateWithNumber 44 = .ok (.iconst 5, 1) := by decide +kernel
theorem dX0_calculateWithNumber_45 : decode cX0_calculateWithNumber 45 = .ok (.if_icmp .ne 28, 3) := by decide +kernel
theorem dX0_calculateWithNumber_48 : decode cX0_calculateWithNumber 48 = .ok (.iload_n 3, 1) := by decide +kernel
theorem dX0_calculateWithNumber_49 : decode cX0_calculateWithNumber 49 = .ok (.bipush 32, 2) := by decide +kernel
theorem dX0_calculateWithNumber_51 : decode cX0_calculateWithNumber 51 = .ok (.if_icmp .ne 22, 3) := by decide +kernel
theorem dX0_calculateWithNumber_54 : decode cX0_calculateWithNumber 54 = .ok (.aload_n 0, 1) := by decide +kernel
theorem dX0_calculateWithNumber_55 : decode cX0_calculateWithNumber 55 = .ok (.iload_n 1, 1) := by decide +kernel
theorem dX0_calculateWithNumber_56 : decode cX0_calculateWithNumber 56 = .ok (.aload_n 0, 1) := by decide +kernel
theorem dX0_calculateWithNumber_57 : decode cX0_calculateWithNumber 57 = .ok (.iload_n 1, 1) := by decide +kernel
theorem dX0_calculateWithNumber_58 : decode cX0_calculateWithNumber 58 = .ok (.invokevirtual 134, 3) := by decide +kernel
theorem dX0_calculateWithNumber_61 : decode cX0_calculateWithNumber 61 = .ok (.iload_n 1, 1) := by decide +kernel
theorem dX0_calculateWithNumber_62 : decode cX0_calculateWithNumber 62 = .ok (.bipush 20, 2) := by decide +kernel
theorem dX0_calculateWithNumber_64 : decode cX0_calculateWithNumber 64 = .ok (.iushr, 1) := by decide +kernel
theorem dX0_calculateWithNumber_65 : decode cX0_calculateWithNumber 65 = .ok (.bipush 31, 2) := by decide +kernel
theorem dX0_calculateWithNumber_67 : decode cX0_calculateWithNumber 67 = .ok (.iand, 1) := by decide +kernel
theorem dX0_calculateWithNumber_68 : decode cX0_calculateWithNumber 68 = .ok (.ishr, 1) := by decide +kernel
theorem dX0_calculateWithNumber_69 : decode cX0_calculateWithNumber 69 = .ok (.invokevirtual 122, 3) := by decide +kernel
theorem dX0_calculateWithNumber_72 : decode cX0_calculateWithNumber 72 = .ok (.ireturn, 1) := by decide +kernel
theorem dX0_calculateWithNumber_73 : decode cX0_calculateWithNumber 73 = .ok (.aload_n 0, 1) := by decide +kernel
theorem dX0_calculateWithNumber_74 : decode cX0_calculateWithNumber 74 = .ok (.iload_n 1, 1) := by decide +kernel
theorem dX0_calculateWithNumber_75 : decode cX0_calculateWithNumber 75 = .ok (.invokevirtual 140, 3) := by decide +kernel
theorem dX0_calculateWithNumber_78 : decode cX0_calculateWithNumber 78 = .ok (.ireturn, 1) := by decide +kernel
end
section
theorem dX0_calculateWithRegister_0 : decode cX0_calculateWithRegister 0 = .ok (.iload_n 1, 1) := by decide +kernel
theorem dX0_calculateWithRegister_1 : decode cX0_calculateWithRegister 1 = .ok (.invokestatic 131, 3) := by decide +kernel
theorem dX0_calculateWithRegister_4 : decode cX0_calculateWithRegister 4 = .ok (.istore_n 2, 1) := by decide +kernel
theorem dX0_calculateWithRegister_5 : decode cX0_calculateWithRegister 5 = .ok (.iload_n 1, 1) := by decide +kernel
theorem dX0_calculateWithRegister_6 : decode cX0_calculateWithRegister 6 = .ok (.invokestatic 186, 3) := by decide +kernel
theorem dX0_calculateWithRegister_9 : decode cX0_calculateWithRegister 9 = .ok (.istore_n 3, 1) := by decide +kernel
theorem dX0_calculateWithRegister_10 : decode cX0_calculateWithRegister 10 = .ok (.aload_n 0, 1) := by decide +kernel
theorem dX0_calculateWithRegister_11 : decode cX0_calculateWithRegister 11 = .ok (.iload_n 1, 1) := by decide +kernel
theorem dX0_calculateWithRegister_12 : decode cX0_calculateWithRegister 12 = .ok (.invokevirtual 134, 3) := by decide +kernel
theorem dX0_calculateWithRegister_15 : decode cX0_calculateWithRegister 15 = .ok (.istore 4, 2) := by decide +kernel
theorem dX0_calculateWithRegister_17 : decode cX0_calculateWithRegister 17 = .ok (.aload_n 0, 1) := by decide +kernel
theorem dX0_calculateWithRegister_18 : decode cX0_calculateWithRegister 18 = .ok (.iload_n 1, 1) := by decide +kernel
theorem dX0_calculateWithRegister_19 : decode cX0_calculateWithRegister 19 = .ok (.invokevirtual 161, 3) := by decide +kernel
theorem dX0_calculateWithRegister_22 : decode cX0_calculateWithRegister 22 = .ok (.istore 5, 2) := by decide +kernel
theorem dX0_calculateWithRegister_24 : decode cX0_calculateWithRegister 24 = .ok (.iload_n 3, 1) := by decide +kernel
theorem dX0_calculateWithRegister_25 : decode cX0_calculateWithRegister 25 = .ok (.ifCond .ne 17, 3) := by decide +kernel
theorem dX0_calculateWithRegister_28 : decode cX0_calculateWithRegister 28 = .ok (.aload_n 0, 1) := by decide +kernel
theorem dX0_calculateWithRegister_29 : decode cX0_calculateWithRegister 29 = .ok (.iload_n 1, 1) := by decide +kernel
theorem dX0_calculateWithRegister_30 : decode cX0_calculateWithRegister 30 = .ok (.iload_n 2, 1) := by decide +kernel
theorem dX0_calculateWithRegister_31 : decode cX0_calculateWithRegister 31 = .ok (.iload 4, 2) := by decide +kernel
theorem dX0_calculateWithRegister_33 : decode cX0_calculateWithRegister 33 = .ok (.iload 5, 2) := by decide +kernel
theorem dX0_calculateWithRegister_35 : decode cX0_calculateWithRegister 35 = .ok (.invokestatic 189, 3) := by decide +kernel
theorem dX0_calculateWithRegister_38 : decode cX0_calculateWithRegister 38 = .ok (.invokevirtual 122, 3) := by decide +kernel
theorem dX0_calculateWithRegister_41 : decode cX0_calculateWithRegister 41 = .ok (.ireturn, 1) := by decide +kernel
theorem dX0_calculateWithRegister_42 : decode cX0_calculateWithRegister 42 = .ok (.iload_n 3, 1) := by decide +kernel
theorem dX0_calculateWithRegister_43 : decode cX0_calculateWithRegister 43 = .ok (.iconst 1, 1) := by decide +kernel
theorem dX0_calculateWithRegister_44 : decode cX0_calculateWithRegister 44 = .ok (.if_icmp .ne 33, 3) := by decide +kernel
theorem dX0_calculateWithRegister_47 : decode cX0_calculateWithRegister 47 = .ok (.aload_n 0, 1) := by decide +kernel
theorem dX0_calculateWithRegister_48 : decode cX0_calculateWithRegister 48 = .ok (.iload_n 1, 1) := by decide +kernel
theorem dX0_calculateWithRegister_49 : decode cX0_calculateWithRegister 49 = .ok (.iload_n 2, 1) := by decide +kernel
theorem dX0_calculateWithRegister_50 : decode cX0_calculateWithRegister 50 = .ok (.iconst 4, 1) := by decide +kernel
theorem dX0_calculateWithRegister_51 : decode cX0_calculateWithRegister 51 = .ok (.if_icmp .ge 14, 3) := by decide +kernel
theorem dX0_calculateWithRegister_54 : decode cX0_calculateWithRegister 54 = .ok (.iload_n 2, 1) := by decide +kernel
theorem dX0_calculateWithRegister_55 : decode cX0_calculateWithRegister 55 = .ok (.iload 4, 2) := by decide +kernel
theorem dX0_calculateWithRegister_57 : decode cX0_calculateWithRegister 57 = .ok (.iload 5, 2) := by decide +kernel
theorem dX0_calculateWithRegister_59 : decode cX0_calculateWithRegister 59 = .ok (.invokestatic 192, 3) := by decide +kernel
theorem dX0_calculateWithRegister_62 : decode cX0_calculateWithRegister 62 = .ok (.goto 11, 3) := by decide +kernel
theorem dX0_calculateWithRegister_65 : decode cX0_calculateWithRegister 65 = .ok (.iload_n 2, 1) := by decide +kernel
theorem dX0_calculateWithRegister_66 : decode cX0_calculateWithRegister 66 = .ok (.iload 4, 2) := by decide +kernel
theorem dX0_calculateWithRegister_68 : decode cX0_calculateWithRegister 68 = .ok (.iload 5, 2) := by decide +kernel
theorem dX0_calculateWithRegister_70 : decode cX0_calculateWithRegister 70 = .ok (.invokestatic 195, 3) := by decide +kernel
theorem dX0_calculateWithRegister_73 : decode cX0_calculateWithRegister 73 = .ok (.invokevirtual 122, 3) := by decide +kernel
theorem dX0_calculateWithRegister_76 : decode cX0_calculateWithRegister 76 = .ok (.ireturn, 1) := by decide +kernel
theorem dX0_calculateWithRegister_77 : decode cX0_calculateWithRegister 77 = .ok (.iload_n 3, 1) := by decide +kernel
theorem dX0_calculateWithRegister_78 : decode cX0_calculateWithRegister 78 = .ok (.bipush 32, 2) := by decide +kernel
theorem dX0_calculateWithRegister_80 : decode cX0_calculateWithRegister 80 = .ok (.if_icmp .ne 18, 3) := by decide +kernel
theorem dX0_calculateWithRegister_83 : decode cX0_calculateWithRegister 83 = .ok (.iload_n 2, 1) := by decide +kernel
theorem dX0_calculateWithRegister_84 : decode cX0_calculateWithRegister 84 = .ok (.ifCond .ne 14, 3) := by decide +kernel
theorem dX0_calculateWithRegister_87 : decode cX0_calculateWithRegister 87 = .ok (.aload_n 0, 1) := by decide +kernel
theorem dX0_calculateWithRegister_88 : decode cX0_calculateWithRegister 88 = .ok (.iload_n 1, 1) := by decide +kernel
theorem dX0_calculateWithRegister_89 : decode cX0_calculateWithRegister 89 = .ok (.iload 4, 2) := by decide +kernel
theorem dX0_calculateWithRegister_91 : decode cX0_calculateWithRegister 91 = .ok (.iload 5, 2) := by decide +kernel
theorem dX0_calculateWithRegister_93 : decode cX0_calculateWithRegister 93 = .ok (.isub, 1) := by decide +kernel
theorem dX0_calculateWithRegister_94 : decode cX0_calculateWithRegister 94 = .ok (.invokevirtual 122, 3) := by decide +kernel
theorem dX0_calculateWithRegister_97 : decode cX0_calculateWithRegister 97 = .ok (.ireturn, 1) := by decide +kernel
theorem dX0_calculateWithRegister_98 : decode cX0_calculateWithRegister 98 = .ok (.iload_n 3, 1) := by decide +kernel
theorem dX0_calculateWithRegister_99 : decode cX0_calculateWithRegister 99 = .ok (.bipush 32, 2) := by decide +kernel
theorem dX0_calculateWithRegister_101 : decode cX0_calculateWithRegister 101 = .ok (.if_icmp .ne 22, 3) := by decide +kernel
theorem dX0_calculateWithRegister_104 : decode cX0_calculateWithRegister 104 = .ok (.iload_n 2, 1) := by decide +kernel
theorem dX0_calculateWithRegister_105 : decode cX0_calculateWithRegister 105 = .ok (.iconst 5, 1) := by decide +kernel
theorem dX0_calculateWithRegister_106 : decode cX0_calculateWithRegister 106 = .ok (.if_icmp .ne 17, 3) := by decide +kernel
theorem dX0_calculateWithRegister_109 : decode cX0_calculateWithRegister 109 = .ok (.aload_n 0, 1) := by decide +kernel
theorem dX0_calculateWithRegister_110 : decode cX0_calculateWithRegister 110 = .ok (.iload_n 1, 1) := by decide +kernel
theorem dX0_calculateWithRegister_111 : decode cX0_calculateWithRegister 111 = .ok (.iload 4, 2) := by decide +kernel
theorem dX0_calculateWithRegister_113 : decode cX0_calculateWithRegister 113 = .ok (.iload 5, 2) := by decide +kernel
theorem dX0_calculateWithRegister_115 : decode cX0_calculateWithRegister 115 = .ok (.bipush 31, 2) := by decide +kernel
theorem dX0_calculateWithRegister_117 : decode cX0_calculateWithRegister 117 = .ok (.iand, 1) := by decide +kernel
theorem dX0_calculateWithRegister_118 : decode cX0_calculateWithRegister 118 = .ok (.ishr, 1) := by decide +kernel
theorem dX0_calculateWithRegister_119 : decode cX0_calculateWithRegister 119 = .ok (.invokevirtual 122, 3) := by decide +kernel
theorem dX0_calculateWithRegister_122 : decode cX0_calculateWithRegister 122 = .ok (.ireturn, 1) := by decide +kernel
theorem dX0_calculateWithRegister_123 : decode cX0_calculateWithRegister 123 = .ok (.aload_n 0, 1) := by decide +kernel
theorem dX0_calculateWithRegister_124 : decode cX0_calculateWithRegister 124 = .ok (.iload_n 1, 1) := by decide +kernel
theorem dX0_calculateWithRegister_125 : decode cX0_calculateWithRegister 125 = .ok (.invokevirtual 140, 3) := by decide +kernel
theorem dX0_calculateWithRegister_128 : decode cX0_calculateWithRegister 128 = .ok (.ireturn, 1) := by decide +kernel
theorem dX0_calculate_0 : decode cX0_calculate 0 = .ok (.iload_n 0, 1) := by decide +kernel
theorem dX0_calculate_1 : decode cX0_calculate 1 = .ok (.tableswitch 94 0 6 #[43, 47, 54, 65, 79, 83, 90], 43) := by decide +kernel
theorem dX0_calculate_44 : decode cX0_calculate 44 = .ok (.iload_n 1, 1) := by decide +kernel
theorem dX0_calculate_45 : decode cX0_calculate 45 = .ok (.iload_n 2, 1) := by decide +kernel
theorem dX0_calculate_46 : decode cX0_calculate 46 = .ok (.iadd, 1) := by decide +kernel
theorem dX0_calculate_47 : decode cX0_calculate 47 = .ok (.ireturn, 1) := by decide +kernel
theorem dX0_calculate_48 : decode cX0_calculate 48 = .ok (.iload_n 1, 1) := by decide +kernel
theorem dX0_calculate_49 : decode cX0_calculate 49 = .ok (.iload_n 2, 1) := by decide +kernel
theorem dX0_calculate_50 : decode cX0_calculate 50 = .ok (.bipush 31, 2) := by decide +kernel
theorem dX0_calculate_52 : decode cX0_calculate 52 = .ok (.iand, 1) := by decide +kernel
theorem dX0_calculate_53 : decode cX0_calculate 53 = .ok (.ishl, 1) := by decide +kernel
theorem dX0_calculate_54 : decode cX0_calculate 54 = .ok (.ireturn, 1) := by decide +kernel
theorem dX0_calculate_55 : decode cX0_calculate 55 = .ok (.iload_n 1, 1) := by decide +kernel
theorem dX0_calculate_56 : decode cX0_calculate 56 = .ok (.iload_n 2, 1) := by decide +kernel
theorem dX0_calculate_57 : decode cX0_calculate 57 = .ok (.if_icmp .ge 7, 3) := by decide +kernel
theorem dX0_calculate_60 : decode cX0_calculate 60 = .ok (.iconst 1, 1) := by decide +kernel
theorem dX0_calculate_61 : decode cX0_calculate 61 = .ok (.goto 4, 3) := by decide +kernel
theorem dX0_calculate_64 : decode cX0_calculate 64 = .ok (.iconst 0, 1) := by decide +kernel
theorem dX0_calculate_65 : decode cX0_calculate 65 = .ok (.ireturn, 1) := by decide +kernel
theorem dX0_calculate_66 : decode cX0_calculate 66 = .ok (.iload_n 1, 1) := by decide +kernel
theorem dX0_calculate_67 : decode cX0_calculate 67 = .ok (.iload_n 2, 1) := by decide +kernel
theorem dX0_calculate_68 : decode cX0_calculate 68 = .ok (.invokestatic 171, 3) := by decide +kernel
theorem dX0_calculate_71 : decode cX0_calculate 71 = .ok (.ifCond .eq 7, 3) := by decide +kernel
theorem dX0_calculate_74 : decode cX0_calculate 74 = .ok (.iconst 1, 1) := by decide +kernel
theorem dX0_calculate_75 : decode cX0_calculate 75 = .ok (.goto 4, 3) := by decide +kernel
theorem dX0_calculate_78 : decode cX0_calculate 78 = .ok (.iconst 0, 1) := by decide +kernel
theorem dX0_calculate_79 : decode cX0_calculate 79 = .ok (.ireturn, 1) := by decide +kernel
theorem dX0_calculate_80 : decode cX0_calculate 80 = .ok (.iload_n 1, 1) := by decide +kernel
theorem dX0_calculate_81 : decode cX0_calculate 81 = .ok (.iload_n 2, 1) := by decide +kernel
theorem dX0_calculate_82 : decode cX0_calculate 82 = .ok (.ixor, 1) := by decide +kernel
theorem dX0_calculate_83 : decode cX0_calculate 83 = .ok (.ireturn, 1) := by decide +kernel
theorem dX0_calculate_84 : decode cX0_calculate 84 = .ok (.iload_n 1, 1) := by decide +kernel
theorem dX0_calculate_85 : decode cX0_calculate 85 = .ok (.iload_n 2, 1) := by decide +kernel
theorem dX0_calculate_86 : decode cX0_calculate 86 = .ok (.bipush 31, 2) := by decide +kernel
theorem dX0_calculate_88 : decode cX0_calculate 88 = .ok (.iand, 1) := by decide +kernel
theorem dX0_calculate_89 : decode cX0_calculate 89 = .ok (.iushr, 1) := by decide +kernel
theorem dX0_calculate_90 : decode cX0_calculate 90 = .ok (.ireturn, 1) := by decide +kernel
theorem dX0_calculate_91 : decode cX0_calculate 91 = .ok (.iload_n 1, 1) := by decide +kernel
theorem dX0_calculate_92 : decode cX0_calculate 92 = .ok (.iload_n 2, 1) := by decide +kernel
theorem dX0_calculate_93 : decode cX0_calculate 93 = .ok (.ior, 1) := by decide +kernel
theorem dX0_calculate_94 : decode cX0_calculate 94 = .ok (.ireturn, 1) := by decide +kernel
theorem dX0_calculate_95 : decode cX0_calculate 95 = .ok (.iload_n 1, 1) := by decide +kernel
theorem dX0_calculate_96 : decode cX0_calculate 96 = .ok (.iload_n 2, 1) := by decide +kernel
theorem dX0_calculate_97 : decode cX0_calculate 97 = .ok (.iand, 1) := by decide +kernel
theorem dX0_calculate_98 : decode cX0_calculate 98 = .ok (.ireturn, 1) := by decide +kernel
theorem dX0_multiply_0 : decode cX0_multiply 0 = .ok (.iload_n 0, 1) := by decide +kernel
theorem dX0_multiply_1 : decode cX0_multiply 1 = .ok (.tableswitch 55 0 2 #[27, 31, 41], 27) := by decide +kernel
theorem dX0_multiply_28 : decode cX0_multiply 28 = .ok (.iload_n 1, 1) := by decide +kernel
theorem dX0_multiply_29 : decode cX0_multiply 29 = .ok (.iload_n 2, 1) := by decide +kernel
theorem dX0_multiply_30 : decode cX0_multiply 30 = .ok (.imul, 1) := by decide +kernel
theorem dX0_multiply_31 : decode cX0_multiply 31 = .ok (.ireturn, 1) := by decide +kernel
theorem dX0_multiply_32 : decode cX0_multiply 32 = .ok (.iload_n 1, 1) := by decide +kernel
theorem dX0_multiply_33 : decode cX0_multiply 33 = .ok (.i2l, 1) := by decide +kernel
theorem dX0_multiply_34 : decode cX0_multiply 34 = .ok (.iload_n 2, 1) := by decide +kernel
theorem dX0_multiply_35 : decode cX0_multiply 35 = .ok (.i2l, 1) := by decide +kernel
theorem dX0_multiply_36 : decode cX0_multiply 36 = .ok (.lmul, 1) := by decide +kernel
theorem dX0_multiply_37 : decode cX0_multiply 37 = .ok (.bipush 32, 2) := by decide +kernel
theorem dX0_multiply_39 : decode cX0_multiply 39 = .ok (.lshr, 1) := by decide +kernel
theorem dX0_multiply_40 : decode cX0_multiply 40 = .ok (.l2i, 1) := by decide +kernel
theorem dX0_multiply_41 : decode cX0_multiply 41 = .ok (.ireturn, 1) := by decide +kernel
theorem dX0_multiply_42 : decode cX0_multiply 42 = .ok (.iload_n 1, 1) := by decide +kernel
theorem dX0_multiply_43 : decode cX0_multiply 43 = .ok (.i2l, 1) := by decide +kernel
theorem dX0_multiply_44 : decode cX0_multiply 44 = .ok (.iload_n 2, 1) := by decide +kernel
theorem dX0_multiply_45 : decode cX0_multiply 45 = .ok (.i2l, 1) := by decide +kernel
theorem dX0_multiply_46 : decode cX0_multiply 46 = .ok (.ldc2_w 174, 3) := by decide +kernel
theorem dX0_multiply_49 : decode cX0_multiply 49 = .ok (.land, 1) := by decide +kernel
theorem dX0_multiply_50 : decode cX0_multiply 50 = .ok (.lmul, 1) := by decide +kernel
theorem dX0_multiply_51 : decode cX0_multiply 51 = .ok (.bipush 32, 2) := by decide +kernel
theorem dX0_multiply_53 : decode cX0_multiply 53 = .ok (.lshr, 1) := by decide +kernel
theorem dX0_multiply_54 : decode cX0_multiply 54 = .ok (.l2i, 1) := by decide +kernel
theorem dX0_multiply_55 : decode cX0_multiply 55 = .ok (.ireturn, 1) := by decide +kernel
theorem dX0_multiply_56 : decode cX0_multiply 56 = .ok (.iload_n 1, 1) := by decide +kernel
theorem dX0_multiply_57 : decode cX0_multiply 57 = .ok (.i2l, 1) := by decide +kernel
theorem dX0_multiply_58 : decode cX0_multiply 58 = .ok (.ldc2_w 174, 3) := by decide +kernel
theorem dX0_multiply_61 : decode cX0_multiply 61 = .ok (.land, 1) := by decide +kernel
theorem dX0_multiply_62 : decode cX0_multiply 62 = .ok (.iload_n 2, 1) := by decide +kernel
theorem dX0_multiply_63 : decode cX0_multiply 63 = .ok (.i2l, 1) := by decide +kernel
theorem dX0_multiply_64 : decode cX0_multiply 64 = .ok (.ldc2_w 174, 3) := by decide +kernel
theorem dX0_multiply_67 : decode cX0_multiply 67 = .ok (.land, 1) := by decide +kernel
theorem dX0_multiply_68 : decode cX0_multiply 68 = .ok (.lmul, 1) := by decide +kernel
theorem dX0_multiply_69 : decode cX0_multiply 69 = .ok (.bipush 32, 2) := by decide +kernel
theorem dX0_multiply_71 : decode cX0_multiply 71 = .ok (.lushr, 1) := by decide +kernel
theorem dX0_multiply_72 : decode cX0_multiply 72 = .ok (.l2i, 1) := by decide +kernel
theorem dX0_multiply_73 : decode cX0_multiply 73 = .ok (.ireturn, 1) := by decide +kernel
theorem dX0_divide_0 : decode cX0_divide 0 = .ok (.iload_n 0, 1) := by decide +kernel
theorem dX0_divide_1 : decode cX0_divide 1 = .ok (.iconst 5, 1) := by decide +kernel
theorem dX0_divide_2 : decode cX0_divide 2 = .ok (.if_icmp .le 7, 3) := by decide +kernel
theorem dX0_divide_5 : decode cX0_divide 5 = .ok (.iconst 1, 1) := by decide +kernel
theorem dX0_divide_6 : decode cX0_divide 6 = .ok (.goto 4, 3) := by decide +kernel
theorem dX0_divide_9 : decode cX0_divide 9 = .ok (.iconst 0, 1) := by decide +kernel
theorem dX0_divide_10 : decode cX0_divide 10 = .ok (.istore_n 3, 1) := by decide +kernel
theorem dX0_divide_11 : decode cX0_divide 11 = .ok (.iload_n 2, 1) := by decide +kernel
theorem dX0_divide_12 : decode cX0_divide 12 = .ok (.ifCond .ne 13, 3) := by decide +kernel
theorem dX0_divide_15 : decode cX0_divide 15 = .ok (.iload_n 3, 1) := by decide +kernel
theorem dX0_divide_16 : decode cX0_divide 16 = .ok (.ifCond .eq 7, 3) := by decide +kernel
theorem dX0_divide_19 : decode cX0_divide 19 = .ok (.iload_n 1, 1) := by decide +kernel
theorem dX0_divide_20 : decode cX0_divide 20 = .ok (.goto 4, 3) := by decide +kernel
theorem dX0_divide_23 : decode cX0_divide 23 = .ok (.iconst (-1), 1) := by decide +kernel
theorem dX0_divide_24 : decode cX0_divide 24 = .ok (.ireturn, 1) := by decide +kernel
theorem dX0_divide_25 : decode cX0_divide 25 = .ok (.iload_n 0, 1) := by decide +kernel
theorem dX0_divide_26 : decode cX0_divide 26 = .ok (.iconst 1, 1) := by decide +kernel
theorem dX0_divide_27 : decode cX0_divide 27 = .ok (.iand, 1) := by decide +kernel
theorem dX0_divide_28 : decode cX0_divide 28 = .ok (.ifCond .ne 7, 3) := by decide +kernel
theorem dX0_divide_31 : decode cX0_divide 31 = .ok (.iconst 1, 1) := by decide +kernel
theorem dX0_divide_32 : decode cX0_divide 32 = .ok (.goto 4, 3) := by decide +kernel
theorem dX0_divide_35 : decode cX0_divide 35 = .ok (.iconst 0, 1) := by decide +kernel
theorem dX0_divide_36 : decode cX0_divide 36 = .ok (.istore 4, 2) := by decide +kernel
theorem dX0_divide_38 : decode cX0_divide 38 = .ok (.iload 4, 2) := by decide +kernel
theorem dX0_divide_40 : decode cX0_divide 40 = .ok (.ifCond .eq 8, 3) := by decide +kernel
theorem dX0_divide_43 : decode cX0_divide 43 = .ok (.iload_n 1, 1) := by decide +kernel
theorem dX0_divide_44 : decode cX0_divide 44 = .ok (.i2l, 1) := by decide +kernel
theorem dX0_divide_45 : decode cX0_divide 45 = .ok (.goto 9, 3) := by decide +kernel
theorem dX0_divide_48 : decode cX0_divide 48 = .ok (.iload_n 1, 1) := by decide +kernel
theorem dX0_divide_49 : decode cX0_divide 49 = .ok (.i2l, 1) := by decide +kernel
theorem dX0_divide_50 : decode cX0_divide 50 = .ok (.ldc2_w 174, 3) := by decide +kernel
theorem dX0_divide_53 : decode cX0_divide 53 = .ok (.land, 1) := by decide +kernel
theorem dX0_divide_54 : decode cX0_divide 54 = .ok (.lstore 5, 2) := by decide +kernel
theorem dX0_divide_56 : decode cX0_divide 56 = .ok (.iload 4, 2) := by decide +kernel
theorem dX0_divide_58 : decode cX0_divide 58 = .ok (.ifCond .eq 8, 3) := by decide +kernel
theorem dX0_divide_61 : decode cX0_divide 61 = .ok (.iload_n 2, 1) := by decide +kernel
theorem dX0_divide_62 : decode cX0_divide 62 = .ok (.i2l, 1) := by decide +kernel
theorem dX0_divide_63 : decode cX0_divide 63 = .ok (.goto 9, 3) := by decide +kernel
theorem dX0_divide_66 : decode cX0_divide 66 = .ok (.iload_n 2, 1) := by decide +kernel
theorem dX0_divide_67 : decode cX0_divide 67 = .ok (.i2l, 1) := by decide +kernel
theorem dX0_divide_68 : decode cX0_divide 68 = .ok (.ldc2_w 174, 3) := by decide +kernel
theorem dX0_divide_71 : decode cX0_divide 71 = .ok (.land, 1) := by decide +kernel
theorem dX0_divide_72 : decode cX0_divide 72 = .ok (.lstore 7, 2) := by decide +kernel
theorem dX0_divide_74 : decode cX0_divide 74 = .ok (.iload_n 3, 1) := by decide +kernel
theorem dX0_divide_75 : decode cX0_divide 75 = .ok (.ifCond .eq 11, 3) := by decide +kernel
theorem dX0_divide_78 : decode cX0_divide 78 = .ok (.lload 5, 2) := by decide +kernel
theorem dX0_divide_80 : decode cX0_divide 80 = .ok (.lload 7, 2) := by decide +kernel
theorem dX0_divide_82 : decode cX0_divide 82 = .ok (.lrem, 1) := by decide +kernel
theorem dX0_divide_83 : decode cX0_divide 83 = .ok (.goto 8, 3) := by decide +kernel
theorem dX0_divide_86 : decode cX0_divide 86 = .ok (.lload 5, 2) := by decide +kernel
theorem dX0_divide_88 : decode cX0_divide 88 = .ok (.lload 7, 2) := by decide +kernel
theorem dX0_divide_90 : decode cX0_divide 90 = .ok (.ldiv, 1) := by decide +kernel
theorem dX0_divide_91 : decode cX0_divide 91 = .ok (.l2i, 1) := by decide +kernel
theorem dX0_divide_92 : decode cX0_divide 92 = .ok (.ireturn, 1) := by decide +kernel
theorem dX0_performSystem_0 : decode cX0_performSystem 0 = .ok (.iload_n 1, 1) := by decide +kernel
theorem dX0_performSystem_1 : decode cX0_performSystem 1 = .ok (.bipush 115, 2) := by decide +kernel
theorem dX0_performSystem_3 : decode cX0_performSystem 3 = .ok (.if_icmp .ne 8, 3) := by decide +kernel
theorem dX0_performSystem_6 : decode cX0_performSystem 6 = .ok (.aload_n 0, 1) := by decide +kernel
theorem dX0_performSystem_7 : decode cX0_performSystem 7 = .ok (.invokevirtual 198, 3) := by decide +kernel
theorem dX0_performSystem_10 : decode cX0_performSystem 10 = .ok (.ireturn, 1) := by decide +kernel
theorem dX0_performSystem_11 : decode cX0_performSystem 11 = .ok (.iload_n 1, 1) := by decide +kernel
theorem dX0_performSystem_12 : decode cX0_performSystem 12 = .ok (.ldc 201, 2) := by decide +kernel
theorem dX0_performSystem_14 : decode cX0_performSystem 14 = .ok (.if_icmp .ne 13, 3) := by decide +kernel
theorem dX0_performSystem_17 : decode cX0_performSystem 17 = .ok (.aload_n 0, 1) := by decide +kernel
theorem dX0_performSystem_18 : decode cX0_performSystem 18 = .ok (.iconst 3, 1) := by decide +kernel
theorem dX0_performSystem_19 : decode cX0_performSystem 19 = .ok (.aload_n 0, 1) := by decide +kernel
theorem dX0_performSystem_20 : decode cX0_performSystem 20 = .ok (.getfield 20, 3) := by decide +kernel
theorem dX0_performSystem_23 : decode cX0_performSystem 23 = .ok (.invokevirtual 96, 3) := by decide +kernel
theorem dX0_performSystem_26 : decode cX0_performSystem 26 = .ok (.ireturn, 1) := by decide +kernel
theorem dX0_performSystem_27 : decode cX0_performSystem 27 = .ok (.aload_n 0, 1) := by decide +kernel
theorem dX0_performSystem_28 : decode cX0_performSystem 28 = .ok (.getfield 24, 3) := by decide +kernel
theorem dX0_performSystem_31 : decode cX0_performSystem 31 = .ok (.ifCond .ne 9, 3) := by decide +kernel
theorem dX0_performSystem_34 : decode cX0_performSystem 34 = .ok (.aload_n 0, 1) := by decide +kernel
theorem dX0_performSystem_35 : decode cX0_performSystem 35 = .ok (.iload_n 1, 1) := by decide +kernel
theorem dX0_performSystem_36 : decode cX0_performSystem 36 = .ok (.invokevirtual 140, 3) := by decide +kernel
theorem dX0_performSystem_39 : decode cX0_performSystem 39 = .ok (.ireturn, 1) := by decide +kernel
theorem dX0_performSystem_40 : decode cX0_performSystem 40 = .ok (.iload_n 1, 1) := by decide +kernel
theorem dX0_performSystem_41 : decode cX0_performSystem 41 = .ok (.invokestatic 131, 3) := by decide +kernel
theorem dX0_performSystem_44 : decode cX0_performSystem 44 = .ok (.ifCond .eq 9, 3) := by decide +kernel
theorem dX0_performSystem_47 : decode cX0_performSystem 47 = .ok (.aload_n 0, 1) := by decide +kernel
theorem dX0_performSystem_48 : decode cX0_performSystem 48 = .ok (.iload_n 1, 1) := by decide +kernel
theorem dX0_performSystem_49 : decode cX0_performSystem 49 = .ok (.invokevirtual 202, 3) := by decide +kernel
theorem dX0_performSystem_52 : decode cX0_performSystem 52 = .ok (.ireturn, 1) := by decide +kernel
theorem dX0_performSystem_53 : decode cX0_performSystem 53 = .ok (.iload_n 1, 1) := by decide +kernel
theorem dX0_performSystem_54 : decode cX0_performSystem 54 = .ok (.ldc 205, 2) := by decide +kernel
theorem dX0_performSystem_56 : decode cX0_performSystem 56 = .ok (.if_icmp .ne 8, 3) := by decide +kernel
theorem dX0_performSystem_59 : decode cX0_performSystem 59 = .ok (.aload_n 0, 1) := by decide +kernel
theorem dX0_performSystem_60 : decode cX0_performSystem 60 = .ok (.invokevirtual 206, 3) := by decide +kernel
theorem dX0_performSystem_63 : decode cX0_performSystem 63 = .ok (.ireturn, 1) := by decide +kernel
theorem dX0_performSystem_64 : decode cX0_performSystem 64 = .ok (.iload_n 1, 1) := by decide +kernel
theorem dX0_performSystem_65 : decode cX0_performSystem 65 = .ok (.ldc 209, 2) := by decide +kernel
theorem dX0_performSystem_67 : decode cX0_performSystem 67 = .ok (.if_icmp .eq 12, 3) := by decide +kernel
theorem dX0_performSystem_70 : decode cX0_performSystem 70 = .ok (.iload_n 1, 1) := by decide +kernel
theorem dX0_performSystem_71 : decode cX0_performSystem 71 = .ok (.ldc 210, 2) := by decide +kernel
theorem dX0_performSystem_73 : decode cX0_performSystem 73 = .ok (.iand, 1) := by decide +kernel
theorem dX0_performSystem_74 : decode cX0_performSystem 74 = .ok (.ldc 211, 2) := by decide +kernel
theorem dX0_performSystem_76 : decode cX0_performSystem 76 = .ok (.if_icmp .ne 8, 3) := by decide +kernel
theorem dX0_performSystem_79 : decode cX0_performSystem 79 = .ok (.aload_n 0, 1) := by decide +kernel
theorem dX0_performSystem_80 : decode cX0_performSystem 80 = .ok (.invokevirtual 115, 3) := by decide +kernel
theorem dX0_performSystem_83 : decode cX0_performSystem 83 = .ok (.ireturn, 1) := by decide +kernel
theorem dX0_performSystem_84 : decode cX0_performSystem 84 = .ok (.aload_n 0, 1) := by decide +kernel
theorem dX0_performSystem_85 : decode cX0_performSystem 85 = .ok (.iload_n 1, 1) := by decide +kernel
theorem dX0_performSystem_86 : decode cX0_performSystem 86 = .ok (.invokevirtual 140, 3) := by decide +kernel
theorem dX0_performSystem_89 : decode cX0_performSystem 89 = .ok (.ireturn, 1) := by decide +kernel
theorem dX0_call_0 : decode cX0_call 0 = .ok (.aload_n 0, 1) := by decide +kernel
theorem dX0_call_1 : decode cX0_call 1 = .ok (.getfield 24, 3) := by decide +kernel
theorem dX0_call_4 : decode cX0_call 4 = .ok (.ifCond .ne 11, 3) := by decide +kernel
theorem dX0_call_7 : decode cX0_call 7 = .ok (.aload_n 0, 1) := by decide +kernel
theorem dX0_call_8 : decode cX0_call 8 = .ok (.bipush 8, 2) := by decide +kernel
theorem dX0_call_10 : decode cX0_call 10 = .ok (.iconst 0, 1) := by decide +kernel
theorem dX0_call_11 : decode cX0_call 11 = .ok (.invokevirtual 96, 3) := by decide +kernel
theorem dX0_call_14 : decode cX0_call 14 = .ok (.ireturn, 1) := by decide +kernel
theorem dX0_call_15 : decode cX0_call 15 = .ok (.aload_n 0, 1) := by decide +kernel
theorem dX0_call_16 : decode cX0_call 16 = .ok (.iconst 1, 1) := by decide +kernel
theorem dX0_call_17 : decode cX0_call 17 = .ok (.putfield 27, 3) := by decide +kernel
theorem dX0_call_20 : decode cX0_call 20 = .ok (.aload_n 0, 1) := by decide +kernel
theorem dX0_call_21 : decode cX0_call 21 = .ok (.invokevirtual 115, 3) := by decide +kernel
theorem dX0_call_24 : decode cX0_call 24 = .ok (.ireturn, 1) := by decide +kernel
theorem dX0_returnFromTrap_0 : decode cX0_returnFromTrap 0 = .ok (.aload_n 0, 1) := by decide +kernel
theorem dX0_returnFromTrap_1 : decode cX0_returnFromTrap 1 = .ok (.aload_n 0, 1) := by decide +kernel
theorem dX0_returnFromTrap_2 : decode cX0_returnFromTrap 2 = .ok (.getfield 17, 3) := by decide +kernel
theorem dX0_returnFromTrap_5 : decode cX0_returnFromTrap 5 = .ok (.iconst 3, 1) := by decide +kernel
theorem dX0_returnFromTrap_6 : decode cX0_returnFromTrap 6 = .ok (.iaload, 1) := by decide +kernel
theorem dX0_returnFromTrap_7 : decode cX0_returnFromTrap 7 = .ok (.putfield 20, 3) := by decide +kernel
theorem dX0_returnFromTrap_10 : decode cX0_returnFromTrap 10 = .ok (.aload_n 0, 1) := by decide +kernel
theorem dX0_returnFromTrap_11 : decode cX0_returnFromTrap 11 = .ok (.aload_n 0, 1) := by decide +kernel
theorem dX0_returnFromTrap_12 : decode cX0_returnFromTrap 12 = .ok (.getfield 17, 3) := by decide +kernel
theorem dX0_returnFromTrap_15 : decode cX0_returnFromTrap 15 = .ok (.iconst 0, 1) := by decide +kernel
theorem dX0_returnFromTrap_16 : decode cX0_returnFromTrap 16 = .ok (.iaload, 1) := by decide +kernel
theorem dX0_returnFromTrap_17 : decode cX0_returnFromTrap 17 = .ok (.bipush 8, 2) := by decide +kernel
theorem dX0_returnFromTrap_19 : decode cX0_returnFromTrap 19 = .ok (.iushr, 1) := by decide +kernel
theorem dX0_returnFromTrap_20 : decode cX0_returnFromTrap 20 = .ok (.iconst 1, 1) := by decide +kernel
theorem dX0_returnFromTrap_21 : decode cX0_returnFromTrap 21 = .ok (.iand, 1) := by decide +kernel
theorem dX0_returnFromTrap_22 : decode cX0_returnFromTrap 22 = .ok (.putfield 24, 3) := by decide +kernel
theorem dX0_returnFromTrap_25 : decode cX0_returnFromTrap 25 = .ok (.aload_n 0, 1) := by decide +kernel
theorem dX0_returnFromTrap_26 : decode cX0_returnFromTrap 26 = .ok (.getfield 17, 3) := by decide +kernel
theorem dX0_returnFromTrap_29 : decode cX0_returnFromTrap 29 = .ok (.iconst 0, 1) := by decide +kernel
theorem dX0_returnFromTrap_30 : decode cX0_returnFromTrap 30 = .ok (.dup2, 1) := by decide +kernel
theorem dX0_returnFromTrap_31 : decode cX0_returnFromTrap 31 = .ok (.iaload, 1) := by decide +kernel
theorem dX0_returnFromTrap_32 : decode cX0_returnFromTrap 32 = .ok (.sipush (-257), 3) := by decide +kernel
theorem dX0_returnFromTrap_35 : decode cX0_returnFromTrap 35 = .ok (.iand, 1) := by decide +kernel
theorem dX0_returnFromTrap_36 : decode cX0_returnFromTrap 36 = .ok (.iastore, 1) := by decide +kernel
theorem dX0_returnFromTrap_37 : decode cX0_returnFromTrap 37 = .ok (.iconst 1, 1) := by decide +kernel
theorem dX0_returnFromTrap_38 : decode cX0_returnFromTrap 38 = .ok (.ireturn, 1) := by decide +kernel
theorem dX0_changeControl_0 : decode cX0_changeControl 0 = .ok (.iload_n 1, 1) := by decide +kernel
theorem dX0_changeControl_1 : decode cX0_changeControl 1 = .ok (.invokestatic 131, 3) := by decide +kernel
theorem dX0_changeControl_4 : decode cX0_changeControl 4 = .ok (.istore_n 2, 1) := by decide +kernel
theorem dX0_changeControl_5 : decode cX0_changeControl 5 = .ok (.iload_n 1, 1) := by decide +kernel
theorem dX0_changeControl_6 : decode cX0_changeControl 6 = .ok (.bipush 20, 2) := by decide +kernel
theorem dX0_changeControl_8 : decode cX0_changeControl 8 = .ok (.iushr, 1) := by decide +kernel
theorem dX0_changeControl_9 : decode cX0_changeControl 9 = .ok (.invokestatic 54, 3) := by decide +kernel
theorem dX0_changeControl_12 : decode cX0_changeControl 12 = .ok (.istore_n 3, 1) := by decide +kernel
theorem dX0_changeControl_13 : decode cX0_changeControl 13 = .ok (.iload_n 2, 1) := by decide +kernel
theorem dX0_changeControl_14 : decode cX0_changeControl 14 = .ok (.iconst 4, 1) := by decide +kernel
theorem dX0_changeControl_15 : decode cX0_changeControl 15 = .ok (.if_icmp .eq 7, 3) := by decide +kernel
theorem dX0_changeControl_18 : decode cX0_changeControl 18 = .ok (.iload_n 3, 1) := by decide +kernel
theorem dX0_changeControl_19 : decode cX0_changeControl 19 = .ok (.ifCond .ge 9, 3) := by decide +kernel
theorem dX0_changeControl_22 : decode cX0_changeControl 22 = .ok (.aload_n 0, 1) := by decide +kernel
theorem dX0_changeControl_23 : decode cX0_changeControl 23 = .ok (.iload_n 1, 1) := by decide +kernel
theorem dX0_changeControl_24 : decode cX0_changeControl 24 = .ok (.invokevirtual 140, 3) := by decide +kernel
theorem dX0_changeControl_27 : decode cX0_changeControl 27 = .ok (.ireturn, 1) := by decide +kernel
theorem dX0_changeControl_28 : decode cX0_changeControl 28 = .ok (.aload_n 0, 1) := by decide +kernel
theorem dX0_changeControl_29 : decode cX0_changeControl 29 = .ok (.getfield 17, 3) := by decide +kernel
theorem dX0_changeControl_32 : decode cX0_changeControl 32 = .ok (.iload_n 3, 1) := by decide +kernel
theorem dX0_changeControl_33 : decode cX0_changeControl 33 = .ok (.iaload, 1) := by decide +kernel
theorem dX0_changeControl_34 : decode cX0_changeControl 34 = .ok (.istore 4, 2) := by decide +kernel
theorem dX0_changeControl_36 : decode cX0_changeControl 36 = .ok (.iload_n 2, 1) := by decide +kernel
theorem dX0_changeControl_37 : decode cX0_changeControl 37 = .ok (.iconst 4, 1) := by decide +kernel
theorem dX0_changeControl_38 : decode cX0_changeControl 38 = .ok (.if_icmp .le 13, 3) := by decide +kernel
theorem dX0_changeControl_41 : decode cX0_changeControl 41 = .ok (.iload_n 1, 1) := by decide +kernel
theorem dX0_changeControl_42 : decode cX0_changeControl 42 = .ok (.bipush 15, 2) := by decide +kernel
theorem dX0_changeControl_44 : decode cX0_changeControl 44 = .ok (.iushr, 1) := by decide +kernel
theorem dX0_changeControl_45 : decode cX0_changeControl 45 = .ok (.bipush 31, 2) := by decide +kernel
theorem dX0_changeControl_47 : decode cX0_changeControl 47 = .ok (.iand, 1) := by decide +kernel
theorem dX0_changeControl_48 : decode cX0_changeControl 48 = .ok (.goto 8, 3) := by decide +kernel
theorem dX0_changeControl_51 : decode cX0_changeControl 51 = .ok (.aload_n 0, 1) := by decide +kernel
theorem dX0_changeControl_52 : decode cX0_changeControl 52 = .ok (.iload_n 1, 1) := by decide +kernel
theorem dX0_changeControl_53 : decode cX0_changeControl 53 = .ok (.invokevirtual 134, 3) := by decide +kernel
theorem dX0_changeControl_56 : decode cX0_changeControl 56 = .ok (.istore 5, 2) := by decide +kernel
theorem dX0_changeControl_58 : decode cX0_changeControl 58 = .ok (.aload_n 0, 1) := by decide +kernel
theorem dX0_changeControl_59 : decode cX0_changeControl 59 = .ok (.getfield 17, 3) := by decide +kernel
theorem dX0_changeControl_62 : decode cX0_changeControl 62 = .ok (.iload_n 3, 1) := by decide +kernel
theorem dX0_changeControl_63 : decode cX0_changeControl 63 = .ok (.iload_n 2, 1) := by decide +kernel
theorem dX0_changeControl_64 : decode cX0_changeControl 64 = .ok (.iconst 3, 1) := by decide +kernel
theorem dX0_changeControl_65 : decode cX0_changeControl 65 = .ok (.iand, 1) := by decide +kernel
theorem dX0_changeControl_66 : decode cX0_changeControl 66 = .ok (.iload 4, 2) := by decide +kernel
theorem dX0_changeControl_68 : decode cX0_changeControl 68 = .ok (.iload 5, 2) := by decide +kernel
theorem dX0_changeControl_70 : decode cX0_changeControl 70 = .ok (.invokestatic 212, 3) := by decide +kernel
theorem dX0_changeControl_73 : decode cX0_changeControl 73 = .ok (.getstatic 63, 3) := by decide +kernel
theorem dX0_changeControl_76 : decode cX0_changeControl 76 = .ok (.iload_n 3, 1) := by decide +kernel
theorem dX0_changeControl_77 : decode cX0_changeControl 77 = .ok (.iaload, 1) := by decide +kernel
theorem dX0_changeControl_78 : decode cX0_changeControl 78 = .ok (.iand, 1) := by decide +kernel
theorem dX0_changeControl_79 : decode cX0_changeControl 79 = .ok (.iastore, 1) := by decide +kernel
theorem dX0_changeControl_80 : decode cX0_changeControl 80 = .ok (.aload_n 0, 1) := by decide +kernel
theorem dX0_changeControl_81 : decode cX0_changeControl 81 = .ok (.iload_n 1, 1) := by decide +kernel
theorem dX0_changeControl_82 : decode cX0_changeControl 82 = .ok (.iload 4, 2) := by decide +kernel
theorem dX0_changeControl_84 : decode cX0_changeControl 84 = .ok (.invokevirtual 122, 3) := by decide +kernel
theorem dX0_changeControl_87 : decode cX0_changeControl 87 = .ok (.ireturn, 1) := by decide +kernel
theorem dX0_changed_0 : decode cX0_changed 0 = .ok (.iload_n 0, 1) := by decide +kernel
theorem dX0_changed_1 : decode cX0_changed 1 = .ok (.iconst 1, 1) := by decide +kernel
theorem dX0_changed_2 : decode cX0_changed 2 = .ok (.if_icmp .ne 5, 3) := by decide +kernel
theorem dX0_changed_5 : decode cX0_changed 5 = .ok (.iload_n 2, 1) := by decide +kernel
theorem dX0_changed_6 : decode cX0_changed 6 = .ok (.ireturn, 1) := by decide +kernel
theorem dX0_changed_7 : decode cX0_changed 7 = .ok (.iload_n 0, 1) := by decide +kernel
theorem dX0_changed_8 : decode cX0_changed 8 = .ok (.iconst 2, 1) := by decide +kernel
theorem dX0_changed_9 : decode cX0_changed 9 = .ok (.if_icmp .ne 9, 3) := by decide +kernel
theorem dX0_changed_12 : decode cX0_changed 12 = .ok (.iload_n 1, 1) := by decide +kernel
theorem dX0_changed_13 : decode cX0_changed 13 = .ok (.iload_n 2, 1) := by decide +kernel
theorem dX0_changed_14 : decode cX0_changed 14 = .ok (.ior, 1) := by decide +kernel
theorem dX0_changed_15 : decode cX0_changed 15 = .ok (.goto 8, 3) := by decide +kernel
theorem dX0_changed_18 : decode cX0_changed 18 = .ok (.iload_n 1, 1) := by decide +kernel
theorem dX0_changed_19 : decode cX0_changed 19 = .ok (.iload_n 2, 1) := by decide +kernel
theorem dX0_changed_20 : decode cX0_changed 20 = .ok (.iconst (-1), 1) := by decide +kernel
theorem dX0_changed_21 : decode cX0_changed 21 = .ok (.ixor, 1) := by decide +kernel
theorem dX0_changed_22 : decode cX0_changed 22 = .ok (.iand, 1) := by decide +kernel
theorem dX0_changed_23 : decode cX0_changed 23 = .ok (.ireturn, 1) := by decide +kernel
end
section
theorem dX1_init_0 : decode cX1_init 0 = .ok (.aload_n 0, 1) := by decide +kernel
theorem dX1_init_1 : decode cX1_init 1 = .ok (.invokespecial 1, 3) := by decide +kernel
theorem dX1_init_4 : decode cX1_init 4 = .ok (.aload_n 0, 1) := by decide +kernel
theorem dX1_init_5 : decode cX1_init 5 = .ok (.ldc 7, 2) := by decide +kernel
theorem dX1_init_7 : decode cX1_init 7 = .ok (.newarray .int, 2) := by decide +kernel
theorem dX1_init_9 : decode cX1_init 9 = .ok (.putfield 8, 3) := by decide +kernel
theorem dX1_init_12 : decode cX1_init 12 = .ok (.aload_n 0, 1) := by decide +kernel
theorem dX1_init_13 : decode cX1_init 13 = .ok (.bipush 32, 2) := by decide +kernel
theorem dX1_init_15 : decode cX1_init 15 = .ok (.newarray .int, 2) := by decide +kernel
theorem dX1_init_17 : decode cX1_init 17 = .ok (.putfield 14, 3) := by decide +kernel
theorem dX1_init_20 : decode cX1_init 20 = .ok (.aload_n 0, 1) := by decide +kernel
theorem dX1_init_21 : decode cX1_init 21 = .ok (.iconst 1, 1) := by decide +kernel
theorem dX1_init_22 : decode cX1_init 22 = .ok (.putfield 17, 3) := by decide +kernel
theorem dX1_init_25 : decode cX1_init 25 = .ok (.aload_n 0, 1) := by decide +kernel
theorem dX1_init_26 : decode cX1_init 26 = .ok (.iconst (-1), 1) := by decide +kernel
theorem dX1_init_27 : decode cX1_init 27 = .ok (.putfield 21, 3) := by decide +kernel
theorem dX1_init_30 : decode cX1_init 30 = .ok (.aload_n 0, 1) := by decide +kernel
theorem dX1_init_31 : decode cX1_init 31 = .ok (.iconst (-1), 1) := by decide +kernel
theorem dX1_init_32 : decode cX1_init 32 = .ok (.putfield 24, 3) := by decide +kernel
theorem dX1_init_35 : decode cX1_init 35 = .ok (.aload_n 0, 1) := by decide +kernel
theorem dX1_init_36 : decode cX1_init 36 = .ok (.iconst 0, 1) := by decide +kernel
theorem dX1_init_37 : decode cX1_init 37 = .ok (.putfield 27, 3) := by decide +kernel
theorem dX1_init_40 : decode cX1_init 40 = .ok (.return_, 1) := by decide +kernel
theorem dX1_thrown_0 : decode cX1_thrown 0 = .ok (.aload_n 0, 1) := by decide +kernel
theorem dX1_thrown_1 : decode cX1_thrown 1 = .ok (.getfield 31, 3) := by decide +kernel
theorem dX1_thrown_4 : decode cX1_thrown 4 = .ok (.ireturn, 1) := by decide +kernel
theorem dX1_plain_0 : decode cX1_plain 0 = .ok (.iload_n 0, 1) := by decide +kernel
theorem dX1_plain_1 : decode cX1_plain 1 = .ok (.i2l, 1) := by decide +kernel
theorem dX1_plain_2 : decode cX1_plain 2 = .ok (.ldc2_w 34, 3) := by decide +kernel
theorem dX1_plain_5 : decode cX1_plain 5 = .ok (.land, 1) := by decide +kernel
theorem dX1_plain_6 : decode cX1_plain 6 = .ok (.lreturn, 1) := by decide +kernel
theorem dX1_bits_0 : decode cX1_bits 0 = .ok (.iload_n 0, 1) := by decide +kernel
theorem dX1_bits_1 : decode cX1_bits 1 = .ok (.invokestatic 36, 3) := by decide +kernel
theorem dX1_bits_4 : decode cX1_bits 4 = .ok (.iload_n 1, 1) := by decide +kernel
theorem dX1_bits_5 : decode cX1_bits 5 = .ok (.lshr, 1) := by decide +kernel
theorem dX1_bits_6 : decode cX1_bits 6 = .ok (.lconst 1, 1) := by decide +kernel
theorem dX1_bits_7 : decode cX1_bits 7 = .ok (.iload_n 2, 1) := by decide +kernel
theorem dX1_bits_8 : decode cX1_bits 8 = .ok (.iload_n 1, 1) := by decide +kernel
theorem dX1_bits_9 : decode cX1_bits 9 = .ok (.isub, 1) := by decide +kernel
theorem dX1_bits_10 : decode cX1_bits 10 = .ok (.iconst 1, 1) := by decide +kernel
theorem dX1_bits_11 : decode cX1_bits 11 = .ok (.iadd, 1) := by decide +kernel
theorem dX1_bits_12 : decode cX1_bits 12 = .ok (.lshl, 1) := by decide +kernel
theorem dX1_bits_13 : decode cX1_bits 13 = .ok (.lconst 1, 1) := by decide +kernel
theorem dX1_bits_14 : decode cX1_bits 14 = .ok (.lsub, 1) := by decide +kernel
theorem dX1_bits_15 : decode cX1_bits 15 = .ok (.land, 1) := by decide +kernel
theorem dX1_bits_16 : decode cX1_bits 16 = .ok (.l2i, 1) := by decide +kernel
theorem dX1_bits_17 : decode cX1_bits 17 = .ok (.ireturn, 1) := by decide +kernel
theorem dX1_has_0 : decode cX1_has 0 = .ok (.iload_n 0, 1) := by decide +kernel
theorem dX1_has_1 : decode cX1_has 1 = .ok (.iload_n 1, 1) := by decide +kernel
theorem dX1_has_2 : decode cX1_has 2 = .ok (.ishr, 1) := by decide +kernel
theorem dX1_has_3 : decode cX1_has 3 = .ok (.iconst 1, 1) := by decide +kernel
theorem dX1_has_4 : decode cX1_has 4 = .ok (.iand, 1) := by decide +kernel
theorem dX1_has_5 : decode cX1_has 5 = .ok (.iconst 1, 1) := by decide +kernel
theorem dX1_has_6 : decode cX1_has 6 = .ok (.if_icmp .ne 7, 3) := by decide +kernel
theorem dX1_has_9 : decode cX1_has 9 = .ok (.iconst 1, 1) := by decide +kernel
theorem dX1_has_10 : decode cX1_has 10 = .ok (.goto 4, 3) := by decide +kernel
theorem dX1_has_13 : decode cX1_has 13 = .ok (.iconst 0, 1) := by decide +kernel
theorem dX1_has_14 : decode cX1_has 14 = .ok (.ireturn, 1) := by decide +kernel
theorem dX1_isWord_0 : decode cX1_isWord 0 = .ok (.iload_n 0, 1) := by decide +kernel
theorem dX1_isWord_1 : decode cX1_isWord 1 = .ok (.invokestatic 36, 3) := by decide +kernel
theorem dX1_isWord_4 : decode cX1_isWord 4 = .ok (.ldc2_w 40, 3) := by decide +kernel
theorem dX1_isWord_7 : decode cX1_isWord 7 = .ok (.lcmp, 1) := by decide +kernel
theorem dX1_isWord_8 : decode cX1_isWord 8 = .ok (.ifCond .ge 7, 3) := by decide +kernel
theorem dX1_isWord_11 : decode cX1_isWord 11 = .ok (.iconst 1, 1) := by decide +kernel
theorem dX1_isWord_12 : decode cX1_isWord 12 = .ok (.goto 4, 3) := by decide +kernel
theorem dX1_isWord_15 : decode cX1_isWord 15 = .ok (.iconst 0, 1) := by decide +kernel
theorem dX1_isWord_16 : decode cX1_isWord 16 = .ok (.ireturn, 1) := by decide +kernel
theorem dX1_pageCause_0 : decode cX1_pageCause 0 = .ok (.iload_n 0, 1) := by decide +kernel
theorem dX1_pageCause_1 : decode cX1_pageCause 1 = .ok (.ifCond .ne 8, 3) := by decide +kernel
theorem dX1_pageCause_4 : decode cX1_pageCause 4 = .ok (.bipush 12, 2) := by decide +kernel
theorem dX1_pageCause_6 : decode cX1_pageCause 6 = .ok (.goto 15, 3) := by decide +kernel
theorem dX1_pageCause_9 : decode cX1_pageCause 9 = .ok (.iload_n 0, 1) := by decide +kernel
theorem dX1_pageCause_10 : decode cX1_pageCause 10 = .ok (.iconst 1, 1) := by decide +kernel
theorem dX1_pageCause_11 : decode cX1_pageCause 11 = .ok (.if_icmp .ne 8, 3) := by decide +kernel
theorem dX1_pageCause_14 : decode cX1_pageCause 14 = .ok (.bipush 13, 2) := by decide +kernel
theorem dX1_pageCause_16 : decode cX1_pageCause 16 = .ok (.goto 5, 3) := by decide +kernel
theorem dX1_pageCause_19 : decode cX1_pageCause 19 = .ok (.bipush 15, 2) := by decide +kernel
theorem dX1_pageCause_21 : decode cX1_pageCause 21 = .ok (.ireturn, 1) := by decide +kernel
theorem dX1_accessCause_0 : decode cX1_accessCause 0 = .ok (.iload_n 0, 1) := by decide +kernel
theorem dX1_accessCause_1 : decode cX1_accessCause 1 = .ok (.ifCond .ne 7, 3) := by decide +kernel
theorem dX1_accessCause_4 : decode cX1_accessCause 4 = .ok (.iconst 1, 1) := by decide +kernel
theorem dX1_accessCause_5 : decode cX1_accessCause 5 = .ok (.goto 14, 3) := by decide +kernel
theorem dX1_accessCause_8 : decode cX1_accessCause 8 = .ok (.iload_n 0, 1) := by decide +kernel
theorem dX1_accessCause_9 : decode cX1_accessCause 9 = .ok (.iconst 1, 1) := by decide +kernel
theorem dX1_accessCause_10 : decode cX1_accessCause 10 = .ok (.if_icmp .ne 7, 3) := by decide +kernel
theorem dX1_accessCause_13 : decode cX1_accessCause 13 = .ok (.iconst 5, 1) := by decide +kernel
theorem dX1_accessCause_14 : decode cX1_accessCause 14 = .ok (.goto 5, 3) := by decide +kernel
theorem dX1_accessCause_17 : decode cX1_accessCause 17 = .ok (.bipush 7, 2) := by decide +kernel
theorem dX1_accessCause_19 : decode cX1_accessCause 19 = .ok (.ireturn, 1) := by decide +kernel
theorem dX1_lets_0 : decode cX1_lets 0 = .ok (.iload_n 1, 1) := by decide +kernel
theorem dX1_lets_1 : decode cX1_lets 1 = .ok (.iconst 0, 1) := by decide +kernel
theorem dX1_lets_2 : decode cX1_lets 2 = .ok (.invokestatic 42, 3) := by decide +kernel
theorem dX1_lets_5 : decode cX1_lets 5 = .ok (.ifCond .eq 48, 3) := by decide +kernel
theorem dX1_lets_8 : decode cX1_lets 8 = .ok (.iload_n 1, 1) := by decide +kernel
theorem dX1_lets_9 : decode cX1_lets 9 = .ok (.iconst 2, 1) := by decide +kernel
theorem dX1_lets_10 : decode cX1_lets 10 = .ok (.invokestatic 42, 3) := by decide +kernel
theorem dX1_lets_13 : decode cX1_lets 13 = .ok (.ifCond .eq 11, 3) := by decide +kernel
theorem dX1_lets_16 : decode cX1_lets 16 = .ok (.iload_n 1, 1) := by decide +kernel
theorem dX1_lets_17 : decode cX1_lets 17 = .ok (.iconst 1, 1) := by decide +kernel
theorem dX1_lets_18 : decode cX1_lets 18 = .ok (.invokestatic 42, 3) := by decide +kernel
theorem dX1_lets_21 : decode cX1_lets 21 = .ok (.ifCond .eq 32, 3) := by decide +kernel
theorem dX1_lets_24 : decode cX1_lets 24 = .ok (.iload_n 1, 1) := by decide +kernel
theorem dX1_lets_25 : decode cX1_lets 25 = .ok (.iconst 1, 1) := by decide +kernel
theorem dX1_lets_26 : decode cX1_lets 26 = .ok (.invokestatic 42, 3) := by decide +kernel
theorem dX1_lets_29 : decode cX1_lets 29 = .ok (.ifCond .ne 11, 3) := by decide +kernel
theorem dX1_lets_32 : decode cX1_lets 32 = .ok (.iload_n 1, 1) := by decide +kernel
theorem dX1_lets_33 : decode cX1_lets 33 = .ok (.iconst 3, 1) := by decide +kernel
theorem dX1_lets_34 : decode cX1_lets 34 = .ok (.invokestatic 42, 3) := by decide +kernel
theorem dX1_lets_37 : decode cX1_lets 37 = .ok (.ifCond .eq 16, 3) := by decide +kernel
theorem dX1_lets_40 : decode cX1_lets 40 = .ok (.iload_n 1, 1) := by decide +kernel
theorem dX1_lets_41 : decode cX1_lets 41 = .ok (.bipush 6, 2) := by decide +kernel
theorem dX1_lets_43 : decode cX1_lets 43 = .ok (.invokestatic 42, 3) := by decide +kernel
theorem dX1_lets_46 : decode cX1_lets 46 = .ok (.ifCond .eq 7, 3) := by decide +kernel
theorem dX1_lets_49 : decode cX1_lets 49 = .ok (.iconst 1, 1) := by decide +kernel
theorem dX1_lets_50 : decode cX1_lets 50 = .ok (.goto 4, 3) := by decide +kernel
theorem dX1_lets_53 : decode cX1_lets 53 = .ok (.iconst 0, 1) := by decide +kernel
theorem dX1_lets_54 : decode cX1_lets 54 = .ok (.istore 4, 2) := by decide +kernel
theorem dX1_lets_56 : decode cX1_lets 56 = .ok (.iload 4, 2) := by decide +kernel
theorem dX1_lets_58 : decode cX1_lets 58 = .ok (.ifCond .eq 22, 3) := by decide +kernel
theorem dX1_lets_61 : decode cX1_lets 61 = .ok (.iload_n 3, 1) := by decide +kernel
theorem dX1_lets_62 : decode cX1_lets 62 = .ok (.ifCond .eq 14, 3) := by decide +kernel
theorem dX1_lets_65 : decode cX1_lets 65 = .ok (.iload_n 1, 1) := by decide +kernel
theorem dX1_lets_66 : decode cX1_lets 66 = .ok (.bipush 10, 2) := by decide +kernel
theorem dX1_lets_68 : decode cX1_lets 68 = .ok (.bipush 19, 2) := by decide +kernel
theorem dX1_lets_70 : decode cX1_lets 70 = .ok (.invokestatic 46, 3) := by decide +kernel
theorem dX1_lets_73 : decode cX1_lets 73 = .ok (.ifCond .ne 7, 3) := by decide +kernel
theorem dX1_lets_76 : decode cX1_lets 76 = .ok (.iconst 1, 1) := by decide +kernel
theorem dX1_lets_77 : decode cX1_lets 77 = .ok (.goto 4, 3) := by decide +kernel
theorem dX1_lets_80 : decode cX1_lets 80 = .ok (.iconst 0, 1) := by decide +kernel
theorem dX1_lets_81 : decode cX1_lets 81 = .ok (.istore 4, 2) := by decide +kernel
theorem dX1_lets_83 : decode cX1_lets 83 = .ok (.iload 4, 2) := by decide +kernel
theorem dX1_lets_85 : decode cX1_lets 85 = .ok (.ifCond .eq 56, 3) := by decide +kernel
theorem dX1_lets_88 : decode cX1_lets 88 = .ok (.iload_n 2, 1) := by decide +kernel
theorem dX1_lets_89 : decode cX1_lets 89 = .ok (.iconst 1, 1) := by decide +kernel
theorem dX1_lets_90 : decode cX1_lets 90 = .ok (.if_icmp .ne 14, 3) := by decide +kernel
theorem dX1_lets_93 : decode cX1_lets 93 = .ok (.iload_n 1, 1) := by decide +kernel
theorem dX1_lets_94 : decode cX1_lets 94 = .ok (.iconst 1, 1) := by decide +kernel
theorem dX1_lets_95 : decode cX1_lets 95 = .ok (.invokestatic 42, 3) := by decide +kernel
theorem dX1_lets_98 : decode cX1_lets 98 = .ok (.ifCond .eq 43, 3) := by decide +kernel
theorem dX1_lets_101 : decode cX1_lets 101 = .ok (.goto 36, 3) := by decide +kernel
theorem dX1_lets_104 : decode cX1_lets 104 = .ok (.iload_n 2, 1) := by decide +kernel
theorem dX1_lets_105 : decode cX1_lets 105 = .ok (.iconst 2, 1) := by decide +kernel
theorem dX1_lets_106 : decode cX1_lets 106 = .ok (.if_icmp .ne 23, 3) := by decide +kernel
theorem dX1_lets_109 : decode cX1_lets 109 = .ok (.iload_n 1, 1) := by decide +kernel
theorem dX1_lets_110 : decode cX1_lets 110 = .ok (.iconst 2, 1) := by decide +kernel
theorem dX1_lets_111 : decode cX1_lets 111 = .ok (.invokestatic 42, 3) := by decide +kernel
theorem dX1_lets_114 : decode cX1_lets 114 = .ok (.ifCond .eq 27, 3) := by decide +kernel
theorem dX1_lets_117 : decode cX1_lets 117 = .ok (.iload_n 1, 1) := by decide +kernel
theorem dX1_lets_118 : decode cX1_lets 118 = .ok (.bipush 7, 2) := by decide +kernel
theorem dX1_lets_120 : decode cX1_lets 120 = .ok (.invokestatic 42, 3) := by decide +kernel
theorem dX1_lets_123 : decode cX1_lets 123 = .ok (.ifCond .eq 18, 3) := by decide +kernel
theorem dX1_lets_126 : decode cX1_lets 126 = .ok (.goto 11, 3) := by decide +kernel
theorem dX1_lets_129 : decode cX1_lets 129 = .ok (.iload_n 1, 1) := by decide +kernel
theorem dX1_lets_130 : decode cX1_lets 130 = .ok (.iconst 3, 1) := by decide +kernel
theorem dX1_lets_131 : decode cX1_lets 131 = .ok (.invokestatic 42, 3) := by decide +kernel
theorem dX1_lets_134 : decode cX1_lets 134 = .ok (.ifCond .eq 7, 3) := by decide +kernel
theorem dX1_lets_137 : decode cX1_lets 137 = .ok (.iconst 1, 1) := by decide +kernel
theorem dX1_lets_138 : decode cX1_lets 138 = .ok (.goto 4, 3) := by decide +kernel
theorem dX1_lets_141 : decode cX1_lets 141 = .ok (.iconst 0, 1) := by decide +kernel
theorem dX1_lets_142 : decode cX1_lets 142 = .ok (.istore 4, 2) := by decide +kernel
theorem dX1_lets_144 : decode cX1_lets 144 = .ok (.aload_n 0, 1) := by decide +kernel
theorem dX1_lets_145 : decode cX1_lets 145 = .ok (.getfield 17, 3) := by decide +kernel
theorem dX1_lets_148 : decode cX1_lets 148 = .ok (.ifCond .ne 22, 3) := by decide +kernel
theorem dX1_lets_151 : decode cX1_lets 151 = .ok (.iload 4, 2) := by decide +kernel
theorem dX1_lets_153 : decode cX1_lets 153 = .ok (.ifCond .eq 15, 3) := by decide +kernel
theorem dX1_lets_156 : decode cX1_lets 156 = .ok (.iload_n 1, 1) := by decide +kernel
theorem dX1_lets_157 : decode cX1_lets 157 = .ok (.iconst 4, 1) := by decide +kernel
theorem dX1_lets_158 : decode cX1_lets 158 = .ok (.invokestatic 42, 3) := by decide +kernel
theorem dX1_lets_161 : decode cX1_lets 161 = .ok (.ifCond .eq 7, 3) := by decide +kernel
theorem dX1_lets_164 : decode cX1_lets 164 = .ok (.iconst 1, 1) := by decide +kernel
theorem dX1_lets_165 : decode cX1_lets 165 = .ok (.goto 4, 3) := by decide +kernel
theorem dX1_lets_168 : decode cX1_lets 168 = .ok (.iconst 0, 1) := by decide +kernel
theorem dX1_lets_169 : decode cX1_lets 169 = .ok (.ireturn, 1) := by decide +kernel
theorem dX1_lets_170 : decode cX1_lets 170 = .ok (.iload 4, 2) := by decide +kernel
theorem dX1_lets_172 : decode cX1_lets 172 = .ok (.ifCond .eq 29, 3) := by decide +kernel
theorem dX1_lets_175 : decode cX1_lets 175 = .ok (.iload_n 1, 1) := by decide +kernel
theorem dX1_lets_176 : decode cX1_lets 176 = .ok (.iconst 4, 1) := by decide +kernel
theorem dX1_lets_177 : decode cX1_lets 177 = .ok (.invokestatic 42, 3) := by decide +kernel
theorem dX1_lets_180 : decode cX1_lets 180 = .ok (.ifCond .eq 17, 3) := by decide +kernel
theorem dX1_lets_183 : decode cX1_lets 183 = .ok (.iload_n 2, 1) := by decide +kernel
theorem dX1_lets_184 : decode cX1_lets 184 = .ok (.ifCond .eq 17, 3) := by decide +kernel
theorem dX1_lets_187 : decode cX1_lets 187 = .ok (.aload_n 0, 1) := by decide +kernel
theorem dX1_lets_188 : decode cX1_lets 188 = .ok (.getfield 50, 3) := by decide +kernel
theorem dX1_lets_191 : decode cX1_lets 191 = .ok (.ldc 53, 2) := by decide +kernel
theorem dX1_lets_193 : decode cX1_lets 193 = .ok (.iand, 1) := by decide +kernel
theorem dX1_lets_194 : decode cX1_lets 194 = .ok (.ifCond .eq 7, 3) := by decide +kernel
theorem dX1_lets_197 : decode cX1_lets 197 = .ok (.iconst 1, 1) := by decide +kernel
theorem dX1_lets_198 : decode cX1_lets 198 = .ok (.goto 4, 3) := by decide +kernel
theorem dX1_lets_201 : decode cX1_lets 201 = .ok (.iconst 0, 1) := by decide +kernel
theorem dX1_lets_202 : decode cX1_lets 202 = .ok (.ireturn, 1) := by decide +kernel
theorem dX1_translated_0 : decode cX1_translated 0 = .ok (.aload_n 0, 1) := by decide +kernel
theorem dX1_translated_1 : decode cX1_translated 1 = .ok (.iconst (-1), 1) := by decide +kernel
theorem dX1_translated_2 : decode cX1_translated 2 = .ok (.putfield 54, 3) := by decide +kernel
theorem dX1_translated_5 : decode cX1_translated 5 = .ok (.iload_n 1, 1) := by decide +kernel
theorem dX1_translated_6 : decode cX1_translated 6 = .ok (.istore_n 3, 1) := by decide +kernel
theorem dX1_translated_7 : decode cX1_translated 7 = .ok (.aload_n 0, 1) := by decide +kernel
theorem dX1_translated_8 : decode cX1_translated 8 = .ok (.getfield 57, 3) := by decide +kernel
theorem dX1_translated_11 : decode cX1_translated 11 = .ok (.bipush 31, 2) := by decide +kernel
theorem dX1_translated_13 : decode cX1_translated 13 = .ok (.invokestatic 42, 3) := by decide +kernel
theorem dX1_translated_16 : decode cX1_translated 16 = .ok (.ifCond .eq 205, 3) := by decide +kernel
theorem dX1_translated_19 : decode cX1_translated 19 = .ok (.aload_n 0, 1) := by decide +kernel
theorem dX1_translated_20 : decode cX1_translated 20 = .ok (.getfield 57, 3) := by decide +kernel
theorem dX1_translated_23 : decode cX1_translated 23 = .ok (.iconst 0, 1) := by decide +kernel
theorem dX1_translated_24 : decode cX1_translated 24 = .ok (.bipush 21, 2) := by decide +kernel
theorem dX1_translated_26 : decode cX1_translated 26 = .ok (.invokestatic 46, 3) := by decide +kernel
theorem dX1_translated_29 : decode cX1_translated 29 = .ok (.sipush 4096, 3) := by decide +kernel
theorem dX1_translated_32 : decode cX1_translated 32 = .ok (.imul, 1) := by decide +kernel
theorem dX1_translated_33 : decode cX1_translated 33 = .ok (.iconst 4, 1) := by decide +kernel
theorem dX1_translated_34 : decode cX1_translated 34 = .ok (.iload_n 1, 1) := by decide +kernel
theorem dX1_translated_35 : decode cX1_translated 35 = .ok (.bipush 22, 2) := by decide +kernel
theorem dX1_translated_37 : decode cX1_translated 37 = .ok (.bipush 31, 2) := by decide +kernel
theorem dX1_translated_39 : decode cX1_translated 39 = .ok (.invokestatic 46, 3) := by decide +kernel
theorem dX1_translated_42 : decode cX1_translated 42 = .ok (.imul, 1) := by decide +kernel
theorem dX1_translated_43 : decode cX1_translated 43 = .ok (.iadd, 1) := by decide +kernel
theorem dX1_translated_44 : decode cX1_translated 44 = .ok (.istore 4, 2) := by decide +kernel
theorem dX1_translated_46 : decode cX1_translated 46 = .ok (.iload 4, 2) := by decide +kernel
theorem dX1_translated_48 : decode cX1_translated 48 = .ok (.invokestatic 60, 3) := by decide +kernel
theorem dX1_translated_51 : decode cX1_translated 51 = .ok (.ifCond .ne 13, 3) := by decide +kernel
theorem dX1_translated_54 : decode cX1_translated 54 = .ok (.aload_n 0, 1) := by decide +kernel
theorem dX1_translated_55 : decode cX1_translated 55 = .ok (.iload_n 2, 1) := by decide +kernel
theorem dX1_translated_56 : decode cX1_translated 56 = .ok (.invokestatic 64, 3) := by decide +kernel
theorem dX1_translated_59 : decode cX1_translated 59 = .ok (.putfield 54, 3) := by decide +kernel
theorem dX1_translated_62 : decode cX1_translated 62 = .ok (.iconst 0, 1) := by decide +kernel
theorem dX1_translated_63 : decode cX1_translated 63 = .ok (.ireturn, 1) := by decide +kernel
theorem dX1_translated_64 : decode cX1_translated 64 = .ok (.aload_n 0, 1) := by decide +kernel
theorem dX1_translated_65 : decode cX1_translated 65 = .ok (.getfield 8, 3) := by decide +kernel
theorem dX1_translated_68 : decode cX1_translated 68 = .ok (.iload 4, 2) := by decide +kernel
theorem dX1_translated_70 : decode cX1_translated 70 = .ok (.iconst 4, 1) := by decide +kernel
theorem dX1_translated_71 : decode cX1_translated 71 = .ok (.idiv, 1) := by decide +kernel
theorem dX1_translated_72 : decode cX1_translated 72 = .ok (.iaload, 1) := by decide +kernel
theorem dX1_translated_73 : decode cX1_translated 73 = .ok (.istore 5, 2) := by decide +kernel
theorem dX1_translated_75 : decode cX1_translated 75 = .ok (.iconst 1, 1) := by decide +kernel
theorem dX1_translated_76 : decode cX1_translated 76 = .ok (.istore 6, 2) := by decide +kernel
theorem dX1_translated_78 : decode cX1_translated 78 = .ok (.iload 5, 2) := by decide +kernel
theorem dX1_translated_80 : decode cX1_translated 80 = .ok (.iconst 0, 1) := by decide +kernel
theorem dX1_translated_81 : decode cX1_translated 81 = .ok (.invokestatic 42, 3) := by decide +kernel
theorem dX1_translated_84 : decode cX1_translated 84 = .ok (.ifCond .eq 71, 3) := by decide +kernel
theorem dX1_translated_87 : decode cX1_translated 87 = .ok (.iload 5, 2) := by decide +kernel
theorem dX1_translated_89 : decode cX1_translated 89 = .ok (.iconst 1, 1) := by decide +kernel
theorem dX1_translated_90 : decode cX1_translated 90 = .ok (.iconst 3, 1) := by decide +kernel
theorem dX1_translated_91 : decode cX1_translated 91 = .ok (.invokestatic 46, 3) := by decide +kernel
theorem dX1_translated_94 : decode cX1_translated 94 = .ok (.ifCond .ne 61, 3) := by decide +kernel
theorem dX1_translated_97 : decode cX1_translated 97 = .ok (.iconst 0, 1) := by decide +kernel
theorem dX1_translated_98 : decode cX1_translated 98 = .ok (.istore 6, 2) := by decide +kernel
theorem dX1_translated_100 : decode cX1_translated 100 = .ok (.iload 5, 2) := by decide +kernel
theorem dX1_translated_102 : decode cX1_translated 102 = .ok (.bipush 10, 2) := by decide +kernel
theorem dX1_translated_104 : decode cX1_translated 104 = .ok (.bipush 31, 2) := by decide +kernel
theorem dX1_translated_106 : decode cX1_translated 106 = .ok (.invokestatic 46, 3) := by decide +kernel
theorem dX1_translated_109 : decode cX1_translated 109 = .ok (.sipush 4096, 3) := by decide +kernel
theorem dX1_translated_112 : decode cX1_translated 112 = .ok (.imul, 1) := by decide +kernel
theorem dX1_translated_113 : decode cX1_translated 113 = .ok (.iconst 4, 1) := by decide +kernel
theorem dX1_translated_114 : decode cX1_translated 114 = .ok (.iload_n 1, 1) := by decide +kernel
theorem dX1_translated_115 : decode cX1_translated 115 = .ok (.bipush 12, 2) := by decide +kernel
theorem dX1_translated_117 : decode cX1_translated 117 = .ok (.bipush 21, 2) := by decide +kernel
theorem dX1_translated_119 : decode cX1_translated 119 = .ok (.invokestatic 46, 3) := by decide +kernel
theorem dX1_translated_122 : decode cX1_translated 122 = .ok (.imul, 1) := by decide +kernel
theorem dX1_translated_123 : decode cX1_translated 123 = .ok (.iadd, 1) := by decide +kernel
theorem dX1_translated_124 : decode cX1_translated 124 = .ok (.istore 4, 2) := by decide +kernel
theorem dX1_translated_126 : decode cX1_translated 126 = .ok (.iload 4, 2) := by decide +kernel
theorem dX1_translated_128 : decode cX1_translated 128 = .ok (.invokestatic 60, 3) := by decide +kernel
theorem dX1_translated_131 : decode cX1_translated 131 = .ok (.ifCond .ne 13, 3) := by decide +kernel
theorem dX1_translated_134 : decode cX1_translated 134 = .ok (.aload_n 0, 1) := by decide +kernel
theorem dX1_translated_135 : decode cX1_translated 135 = .ok (.iload_n 2, 1) := by decide +kernel
theorem dX1_translated_136 : decode cX1_translated 136 = .ok (.invokestatic 64, 3) := by decide +kernel
theorem dX1_translated_139 : decode cX1_translated 139 = .ok (.putfield 54, 3) := by decide +kernel
theorem dX1_translated_142 : decode cX1_translated 142 = .ok (.iconst 0, 1) := by decide +kernel
theorem dX1_translated_143 : decode cX1_translated 143 = .ok (.ireturn, 1) := by decide +kernel
theorem dX1_translated_144 : decode cX1_translated 144 = .ok (.aload_n 0, 1) := by decide +kernel
theorem dX1_translated_145 : decode cX1_translated 145 = .ok (.getfield 8, 3) := by decide +kernel
theorem dX1_translated_148 : decode cX1_translated 148 = .ok (.iload 4, 2) := by decide +kernel
theorem dX1_translated_150 : decode cX1_translated 150 = .ok (.iconst 4, 1) := by decide +kernel
theorem dX1_translated_151 : decode cX1_translated 151 = .ok (.idiv, 1) := by decide +kernel
theorem dX1_translated_152 : decode cX1_translated 152 = .ok (.iaload, 1) := by decide +kernel
theorem dX1_translated_153 : decode cX1_translated 153 = .ok (.istore 5, 2) := by decide +kernel
theorem dX1_translated_155 : decode cX1_translated 155 = .ok (.aload_n 0, 1) := by decide +kernel
theorem dX1_translated_156 : decode cX1_translated 156 = .ok (.iload 5, 2) := by decide +kernel
theorem dX1_translated_158 : decode cX1_translated 158 = .ok (.iload_n 2, 1) := by decide +kernel
theorem dX1_translated_159 : decode cX1_translated 159 = .ok (.iload 6, 2) := by decide +kernel
theorem dX1_translated_161 : decode cX1_translated 161 = .ok (.invokevirtual 68, 3) := by decide +kernel
theorem dX1_translated_164 : decode cX1_translated 164 = .ok (.ifCond .ne 13, 3) := by decide +kernel
theorem dX1_translated_167 : decode cX1_translated 167 = .ok (.aload_n 0, 1) := by decide +kernel
theorem dX1_translated_168 : decode cX1_translated 168 = .ok (.iload_n 2, 1) := by decide +kernel
theorem dX1_translated_169 : decode cX1_translated 169 = .ok (.invokestatic 72, 3) := by decide +kernel
theorem dX1_translated_172 : decode cX1_translated 172 = .ok (.putfield 54, 3) := by decide +kernel
theorem dX1_translated_175 : decode cX1_translated 175 = .ok (.iconst 0, 1) := by decide +kernel
theorem dX1_translated_176 : decode cX1_translated 176 = .ok (.ireturn, 1) := by decide +kernel
theorem dX1_translated_177 : decode cX1_translated 177 = .ok (.iload 5, 2) := by decide +kernel
theorem dX1_translated_179 : decode cX1_translated 179 = .ok (.bipush 10, 2) := by decide +kernel
theorem dX1_translated_181 : decode cX1_translated 181 = .ok (.bipush 31, 2) := by decide +kernel
theorem dX1_translated_183 : decode cX1_translated 183 = .ok (.invokestatic 46, 3) := by decide +kernel
theorem dX1_translated_186 : decode cX1_translated 186 = .ok (.sipush 4096, 3) := by decide +kernel
theorem dX1_translated_189 : decode cX1_translated 189 = .ok (.imul, 1) := by decide +kernel
theorem dX1_translated_190 : decode cX1_translated 190 = .ok (.iload_n 1, 1) := by decide +kernel
theorem dX1_translated_191 : decode cX1_translated 191 = .ok (.iconst 0, 1) := by decide +kernel
theorem dX1_translated_192 : decode cX1_translated 192 = .ok (.bipush 11, 2) := by decide +kernel
theorem dX1_translated_194 : decode cX1_translated 194 = .ok (.invokestatic 46, 3) := by decide +kernel
theorem dX1_translated_197 : decode cX1_translated 197 = .ok (.iadd, 1) := by decide +kernel
theorem dX1_translated_198 : decode cX1_translated 198 = .ok (.iload 6, 2) := by decide +kernel
theorem dX1_translated_200 : decode cX1_translated 200 = .ok (.ifCond .eq 18, 3) := by decide +kernel
theorem dX1_translated_203 : decode cX1_translated 203 = .ok (.sipush 4096, 3) := by decide +kernel
theorem dX1_translated_206 : decode cX1_translated 206 = .ok (.iload_n 1, 1) := by decide +kernel
theorem dX1_translated_207 : decode cX1_translated 207 = .ok (.bipush 12, 2) := by decide +kernel
theorem dX1_translated_209 : decode cX1_translated 209 = .ok (.bipush 21, 2) := by decide +kernel
theorem dX1_translated_211 : decode cX1_translated 211 = .ok (.invokestatic 46, 3) := by decide +kernel
theorem dX1_translated_214 : decode cX1_translated 214 = .ok (.imul, 1) := by decide +kernel
theorem dX1_translated_215 : decode cX1_translated 215 = .ok (.goto 4, 3) := by decide +kernel
theorem dX1_translated_218 : decode cX1_translated 218 = .ok (.iconst 0, 1) := by decide +kernel
theorem dX1_translated_219 : decode cX1_translated 219 = .ok (.iadd, 1) := by decide +kernel
theorem dX1_translated_220 : decode cX1_translated 220 = .ok (.istore_n 3, 1) := by decide +kernel
theorem dX1_translated_221 : decode cX1_translated 221 = .ok (.iload_n 3, 1) := by decide +kernel
theorem dX1_translated_222 : decode cX1_translated 222 = .ok (.invokestatic 60, 3) := by decide +kernel
theorem dX1_translated_225 : decode cX1_translated 225 = .ok (.ifCond .ne 11, 3) := by decide +kernel
theorem dX1_translated_228 : decode cX1_translated 228 = .ok (.aload_n 0, 1) := by decide +kernel
theorem dX1_translated_229 : decode cX1_translated 229 = .ok (.iload_n 2, 1) := by decide +kernel
theorem dX1_translated_230 : decode cX1_translated 230 = .ok (.invokestatic 64, 3) := by decide +kernel
theorem dX1_translated_233 : decode cX1_translated 233 = .ok (.putfield 54, 3) := by decide +kernel
theorem dX1_translated_236 : decode cX1_translated 236 = .ok (.iload_n 3, 1) := by decide +kernel
theorem dX1_translated_237 : decode cX1_translated 237 = .ok (.ireturn, 1) := by decide +kernel
theorem dX1_trap_0 : decode cX1_trap 0 = .ok (.aload_n 0, 1) := by decide +kernel
theorem dX1_trap_1 : decode cX1_trap 1 = .ok (.aload_n 0, 1) := by decide +kernel
theorem dX1_trap_2 : decode cX1_trap 2 = .ok (.getfield 75, 3) := by decide +kernel
theorem dX1_trap_5 : decode cX1_trap 5 = .ok (.aload_n 0, 1) := by decide +kernel
theorem dX1_trap_6 : decode cX1_trap 6 = .ok (.getfield 75, 3) := by decide +kernel
theorem dX1_trap_9 : decode cX1_trap 9 = .ok (.iconst 0, 1) := by decide +kernel
theorem dX1_trap_10 : decode cX1_trap 10 = .ok (.iconst 1, 1) := by decide +kernel
theorem dX1_trap_11 : decode cX1_trap 11 = .ok (.invokestatic 46, 3) := by decide +kernel
theorem dX1_trap_14 : decode cX1_trap 14 = .ok (.isub, 1) := by decide +kernel
theorem dX1_trap_15 : decode cX1_trap 15 = .ok (.putfield 78, 3) := by decide +kernel
theorem dX1_trap_18 : decode cX1_trap 18 = .ok (.aload_n 0, 1) := by decide +kernel
theorem dX1_trap_19 : decode cX1_trap 19 = .ok (.iload_n 1, 1) := by decide +kernel
theorem dX1_trap_20 : decode cX1_trap 20 = .ok (.putfield 81, 3) := by decide +kernel
theorem dX1_trap_23 : decode cX1_trap 23 = .ok (.aload_n 0, 1) := by decide +kernel
theorem dX1_trap_24 : decode cX1_trap 24 = .ok (.iload_n 2, 1) := by decide +kernel
theorem dX1_trap_25 : decode cX1_trap 25 = .ok (.putfield 84, 3) := by decide +kernel
theorem dX1_trap_28 : decode cX1_trap 28 = .ok (.aload_n 0, 1) := by decide +kernel
theorem dX1_trap_29 : decode cX1_trap 29 = .ok (.aload_n 0, 1) := by decide +kernel
theorem dX1_trap_30 : decode cX1_trap 30 = .ok (.getfield 50, 3) := by decide +kernel
theorem dX1_trap_33 : decode cX1_trap 33 = .ok (.ldc 53, 2) := by decide +kernel
theorem dX1_trap_35 : decode cX1_trap 35 = .ok (.iand, 1) := by decide +kernel
theorem dX1_trap_36 : decode cX1_trap 36 = .ok (.aload_n 0, 1) := by decide +kernel
theorem dX1_trap_37 : decode cX1_trap 37 = .ok (.getfield 17, 3) := by decide +kernel
theorem dX1_trap_40 : decode cX1_trap 40 = .ok (.iconst 1, 1) := by decide +kernel
theorem dX1_trap_41 : decode cX1_trap 41 = .ok (.if_icmp .ne 9, 3) := by decide +kernel
theorem dX1_trap_44 : decode cX1_trap 44 = .ok (.sipush 256, 3) := by decide +kernel
theorem dX1_trap_47 : decode cX1_trap 47 = .ok (.goto 4, 3) := by decide +kernel
theorem dX1_trap_50 : decode cX1_trap 50 = .ok (.iconst 0, 1) := by decide +kernel
theorem dX1_trap_51 : decode cX1_trap 51 = .ok (.iadd, 1) := by decide +kernel
theorem dX1_trap_52 : decode cX1_trap 52 = .ok (.putfield 50, 3) := by decide +kernel
theorem dX1_trap_55 : decode cX1_trap 55 = .ok (.aload_n 0, 1) := by decide +kernel
theorem dX1_trap_56 : decode cX1_trap 56 = .ok (.iconst 1, 1) := by decide +kernel
theorem dX1_trap_57 : decode cX1_trap 57 = .ok (.putfield 17, 3) := by decide +kernel
theorem dX1_trap_60 : decode cX1_trap 60 = .ok (.aload_n 0, 1) := by decide +kernel
theorem dX1_trap_61 : decode cX1_trap 61 = .ok (.aload_n 0, 1) := by decide +kernel
theorem dX1_trap_62 : decode cX1_trap 62 = .ok (.getfield 87, 3) := by decide +kernel
theorem dX1_trap_65 : decode cX1_trap 65 = .ok (.putfield 75, 3) := by decide +kernel
theorem dX1_trap_68 : decode cX1_trap 68 = .ok (.aload_n 0, 1) := by decide +kernel
theorem dX1_trap_69 : decode cX1_trap 69 = .ok (.iconst 1, 1) := by decide +kernel
theorem dX1_trap_70 : decode cX1_trap 70 = .ok (.putfield 90, 3) := by decide +kernel
theorem dX1_trap_73 : decode cX1_trap 73 = .ok (.return_, 1) := by decide +kernel
theorem dX1_reach_0 : decode cX1_reach 0 = .ok (.iload_n 1, 1) := by decide +kernel
theorem dX1_reach_1 : decode cX1_reach 1 = .ok (.iconst 0, 1) := by decide +kernel
theorem dX1_reach_2 : decode cX1_reach 2 = .ok (.iconst 1, 1) := by decide +kernel
theorem dX1_reach_3 : decode cX1_reach 3 = .ok (.invokestatic 46, 3) := by decide +kernel
theorem dX1_reach_6 : decode cX1_reach 6 = .ok (.iload_n 2, 1) := by decide +kernel
theorem dX1_reach_7 : decode cX1_reach 7 = .ok (.irem, 1) := by decide +kernel
theorem dX1_reach_8 : decode cX1_reach 8 = .ok (.ifCond .eq 29, 3) := by decide +kernel
theorem dX1_reach_11 : decode cX1_reach 11 = .ok (.aload_n 0, 1) := by decide +kernel
theorem dX1_reach_12 : decode cX1_reach 12 = .ok (.iload_n 3, 1) := by decide +kernel
theorem dX1_reach_13 : decode cX1_reach 13 = .ok (.ifCond .ne 7, 3) := by decide +kernel
theorem dX1_reach_16 : decode cX1_reach 16 = .ok (.iconst 0, 1) := by decide +kernel
theorem dX1_reach_17 : decode cX1_reach 17 = .ok (.goto 14, 3) := by decide +kernel
theorem dX1_reach_20 : decode cX1_reach 20 = .ok (.iload_n 3, 1) := by decide +kernel
theorem dX1_reach_21 : decode cX1_reach 21 = .ok (.iconst 1, 1) := by decide +kernel
theorem dX1_reach_22 : decode cX1_reach 22 = .ok (.if_icmp .ne 7, 3) := by decide +kernel
theorem dX1_reach_25 : decode cX1_reach 25 = .ok (.iconst 4, 1) := by decide +kernel
theorem dX1_reach_26 : decode cX1_reach 26 = .ok (.goto 5, 3) := by decide +kernel
theorem dX1_reach_29 : decode cX1_reach 29 = .ok (.bipush 6, 2) := by decide +kernel
theorem dX1_reach_31 : decode cX1_reach 31 = .ok (.iload_n 1, 1) := by decide +kernel
theorem dX1_reach_32 : decode cX1_reach 32 = .ok (.invokevirtual 93, 3) := by decide +kernel
theorem dX1_reach_35 : decode cX1_reach 35 = .ok (.iconst 0, 1) := by decide +kernel
theorem dX1_reach_36 : decode cX1_reach 36 = .ok (.ireturn, 1) := by decide +kernel
theorem dX1_reach_37 : decode cX1_reach 37 = .ok (.aload_n 0, 1) := by decide +kernel
theorem dX1_reach_38 : decode cX1_reach 38 = .ok (.iload_n 1, 1) := by decide +kernel
theorem dX1_reach_39 : decode cX1_reach 39 = .ok (.iload_n 3, 1) := by decide +kernel
theorem dX1_reach_40 : decode cX1_reach 40 = .ok (.invokevirtual 97, 3) := by decide +kernel
theorem dX1_reach_43 : decode cX1_reach 43 = .ok (.istore 4, 2) := by decide +kernel
theorem dX1_reach_45 : decode cX1_reach 45 = .ok (.aload_n 0, 1) := by decide +kernel
theorem dX1_reach_46 : decode cX1_reach 46 = .ok (.getfield 54, 3) := by decide +kernel
theorem dX1_reach_49 : decode cX1_reach 49 = .ok (.ifCond .lt 12, 3) := by decide +kernel
theorem dX1_reach_52 : decode cX1_reach 52 = .ok (.aload_n 0, 1) := by decide +kernel
theorem dX1_reach_53 : decode cX1_reach 53 = .ok (.aload_n 0, 1) := by decide +kernel
theorem dX1_reach_54 : decode cX1_reach 54 = .ok (.getfield 54, 3) := by decide +kernel
theorem dX1_reach_57 : decode cX1_reach 57 = .ok (.iload_n 1, 1) := by decide +kernel
theorem dX1_reach_58 : decode cX1_reach 58 = .ok (.invokevirtual 93, 3) := by decide +kernel
theorem dX1_reach_61 : decode cX1_reach 61 = .ok (.iload 4, 2) := by decide +kernel
theorem dX1_reach_63 : decode cX1_reach 63 = .ok (.ireturn, 1) := by decide +kernel
theorem dX1_set_0 : decode cX1_set 0 = .ok (.aload_n 0, 1) := by decide +kernel
theorem dX1_set_1 : decode cX1_set 1 = .ok (.getfield 14, 3) := by decide +kernel
theorem dX1_set_4 : decode cX1_set 4 = .ok (.iload_n 1, 1) := by decide +kernel
theorem dX1_set_5 : decode cX1_set 5 = .ok (.iload_n 1, 1) := by decide +kernel
theorem dX1_set_6 : decode cX1_set 6 = .ok (.ifCond .ne 7, 3) := by decide +kernel
theorem dX1_set_9 : decode cX1_set 9 = .ok (.iconst 0, 1) := by decide +kernel
theorem dX1_set_10 : decode cX1_set 10 = .ok (.goto 4, 3) := by decide +kernel
theorem dX1_set_13 : decode cX1_set 13 = .ok (.iload_n 2, 1) := by decide +kernel
theorem dX1_set_14 : decode cX1_set 14 = .ok (.iastore, 1) := by decide +kernel
theorem dX1_set_15 : decode cX1_set 15 = .ok (.return_, 1) := by decide +kernel
theorem dX1_step_0 : decode cX1_step 0 = .ok (.aload_n 0, 1) := by decide +kernel
theorem dX1_step_1 : decode cX1_step 1 = .ok (.iconst 0, 1) := by decide +kernel
theorem dX1_step_2 : decode cX1_step 2 = .ok (.putfield 90, 3) := by decide +kernel
theorem dX1_step_5 : decode cX1_step 5 = .ok (.aload_n 0, 1) := by decide +kernel
theorem dX1_step_6 : decode cX1_step 6 = .ok (.getfield 17, 3) := by decide +kernel
theorem dX1_step_9 : decode cX1_step 9 = .ok (.ifCond .ne 7, 3) := by decide +kernel
theorem dX1_step_12 : decode cX1_step 12 = .ok (.iconst 1, 1) := by decide +kernel
theorem dX1_step_13 : decode cX1_step 13 = .ok (.goto 4, 3) := by decide +kernel
theorem dX1_step_16 : decode cX1_step 16 = .ok (.iconst 0, 1) := by decide +kernel
theorem dX1_step_17 : decode cX1_step 17 = .ok (.istore_n 1, 1) := by decide +kernel
theorem dX1_step_18 : decode cX1_step 18 = .ok (.iload_n 1, 1) := by decide +kernel
theorem dX1_step_19 : decode cX1_step 19 = .ok (.ifCond .eq 18, 3) := by decide +kernel
theorem dX1_step_22 : decode cX1_step 22 = .ok (.aload_n 0, 1) := by decide +kernel
theorem dX1_step_23 : decode cX1_step 23 = .ok (.getfield 24, 3) := by decide +kernel
theorem dX1_step_26 : decode cX1_step 26 = .ok (.ifCond .ne 11, 3) := by decide +kernel
theorem dX1_step_29 : decode cX1_step 29 = .ok (.aload_n 0, 1) := by decide +kernel
theorem dX1_step_30 : decode cX1_step 30 = .ok (.bipush 24, 2) := by decide +kernel
theorem dX1_step_32 : decode cX1_step 32 = .ok (.iconst 0, 1) := by decide +kernel
theorem dX1_step_33 : decode cX1_step 33 = .ok (.invokevirtual 93, 3) := by decide +kernel
theorem dX1_step_36 : decode cX1_step 36 = .ok (.return_, 1) := by decide +kernel
theorem dX1_step_37 : decode cX1_step 37 = .ok (.iload_n 1, 1) := by decide +kernel
theorem dX1_step_38 : decode cX1_step 38 = .ok (.ifCond .eq 18, 3) := by decide +kernel
theorem dX1_step_41 : decode cX1_step 41 = .ok (.aload_n 0, 1) := by decide +kernel
theorem dX1_step_42 : decode cX1_step 42 = .ok (.getfield 21, 3) := by decide +kernel
theorem dX1_step_45 : decode cX1_step 45 = .ok (.ifCond .ne 11, 3) := by decide +kernel
theorem dX1_step_48 : decode cX1_step 48 = .ok (.aload_n 0, 1) := by decide +kernel
theorem dX1_step_49 : decode cX1_step 49 = .ok (.ldc 101, 2) := by decide +kernel
theorem dX1_step_51 : decode cX1_step 51 = .ok (.iconst 0, 1) := by decide +kernel
theorem dX1_step_52 : decode cX1_step 52 = .ok (.invokevirtual 93, 3) := by decide +kernel
theorem dX1_step_55 : decode cX1_step 55 = .ok (.return_, 1) := by decide +kernel
theorem dX1_step_56 : decode cX1_step 56 = .ok (.aload_n 0, 1) := by decide +kernel
theorem dX1_step_57 : decode cX1_step 57 = .ok (.aload_n 0, 1) := by decide +kernel
theorem dX1_step_58 : decode cX1_step 58 = .ok (.getfield 75, 3) := by decide +kernel
theorem dX1_step_61 : decode cX1_step 61 = .ok (.iconst 4, 1) := by decide +kernel
theorem dX1_step_62 : decode cX1_step 62 = .ok (.iconst 0, 1) := by decide +kernel
theorem dX1_step_63 : decode cX1_step 63 = .ok (.invokevirtual 102, 3) := by decide +kernel
theorem dX1_step_66 : decode cX1_step 66 = .ok (.istore_n 2, 1) := by decide +kernel
theorem dX1_step_67 : decode cX1_step 67 = .ok (.aload_n 0, 1) := by decide +kernel
theorem dX1_step_68 : decode cX1_step 68 = .ok (.getfield 90, 3) := by decide +kernel
theorem dX1_step_71 : decode cX1_step 71 = .ok (.ifCond .eq 4, 3) := by decide +kernel
theorem dX1_step_74 : decode cX1_step 74 = .ok (.return_, 1) := by decide +kernel
theorem dX1_step_75 : decode cX1_step 75 = .ok (.aload_n 0, 1) := by decide +kernel
theorem dX1_step_76 : decode cX1_step 76 = .ok (.getfield 8, 3) := by decide +kernel
theorem dX1_step_79 : decode cX1_step 79 = .ok (.iload_n 2, 1) := by decide +kernel
theorem dX1_step_80 : decode cX1_step 80 = .ok (.iconst 4, 1) := by decide +kernel
theorem dX1_step_81 : decode cX1_step 81 = .ok (.idiv, 1) := by decide +kernel
theorem dX1_step_82 : decode cX1_step 82 = .ok (.iaload, 1) := by decide +kernel
theorem dX1_step_83 : decode cX1_step 83 = .ok (.istore_n 3, 1) := by decide +kernel
theorem dX1_step_84 : decode cX1_step 84 = .ok (.aload_n 0, 1) := by decide +kernel
theorem dX1_step_85 : decode cX1_step 85 = .ok (.aload_n 0, 1) := by decide +kernel
theorem dX1_step_86 : decode cX1_step 86 = .ok (.getfield 75, 3) := by decide +kernel
theorem dX1_step_89 : decode cX1_step 89 = .ok (.iconst 4, 1) := by decide +kernel
theorem dX1_step_90 : decode cX1_step 90 = .ok (.iadd, 1) := by decide +kernel
theorem dX1_step_91 : decode cX1_step 91 = .ok (.putfield 105, 3) := by decide +kernel
theorem dX1_step_94 : decode cX1_step 94 = .ok (.aload_n 0, 1) := by decide +kernel
theorem dX1_step_95 : decode cX1_step 95 = .ok (.iload_n 3, 1) := by decide +kernel
theorem dX1_step_96 : decode cX1_step 96 = .ok (.invokevirtual 108, 3) := by decide +kernel
theorem dX1_step_99 : decode cX1_step 99 = .ok (.aload_n 0, 1) := by decide +kernel
theorem dX1_step_100 : decode cX1_step 100 = .ok (.getfield 90, 3) := by decide +kernel
theorem dX1_step_103 : decode cX1_step 103 = .ok (.ifCond .ne 69, 3) := by decide +kernel
theorem dX1_step_106 : decode cX1_step 106 = .ok (.aload_n 0, 1) := by decide +kernel
theorem dX1_step_107 : decode cX1_step 107 = .ok (.aload_n 0, 1) := by decide +kernel
theorem dX1_step_108 : decode cX1_step 108 = .ok (.getfield 105, 3) := by decide +kernel
theorem dX1_step_111 : decode cX1_step 111 = .ok (.putfield 75, 3) := by decide +kernel
theorem dX1_step_114 : decode cX1_step 114 = .ok (.aload_n 0, 1) := by decide +kernel
theorem dX1_step_115 : decode cX1_step 115 = .ok (.iload_n 1, 1) := by decide +kernel
theorem dX1_step_116 : decode cX1_step 116 = .ok (.ifCond .eq 20, 3) := by decide +kernel
theorem dX1_step_119 : decode cX1_step 119 = .ok (.aload_n 0, 1) := by decide +kernel
theorem dX1_step_120 : decode cX1_step 120 = .ok (.getfield 24, 3) := by decide +kernel
theorem dX1_step_123 : decode cX1_step 123 = .ok (.iconst (-1), 1) := by decide +kernel
theorem dX1_step_124 : decode cX1_step 124 = .ok (.if_icmp .eq 12, 3) := by decide +kernel
theorem dX1_step_127 : decode cX1_step 127 = .ok (.aload_n 0, 1) := by decide +kernel
theorem dX1_step_128 : decode cX1_step 128 = .ok (.getfield 24, 3) := by decide +kernel
theorem dX1_step_131 : decode cX1_step 131 = .ok (.iconst 1, 1) := by decide +kernel
theorem dX1_step_132 : decode cX1_step 132 = .ok (.isub, 1) := by decide +kernel
theorem dX1_step_133 : decode cX1_step 133 = .ok (.goto 7, 3) := by decide +kernel
theorem dX1_step_136 : decode cX1_step 136 = .ok (.aload_n 0, 1) := by decide +kernel
theorem dX1_step_137 : decode cX1_step 137 = .ok (.getfield 24, 3) := by decide +kernel
theorem dX1_step_140 : decode cX1_step 140 = .ok (.putfield 24, 3) := by decide +kernel
theorem dX1_step_143 : decode cX1_step 143 = .ok (.aload_n 0, 1) := by decide +kernel
theorem dX1_step_144 : decode cX1_step 144 = .ok (.iload_n 1, 1) := by decide +kernel
theorem dX1_step_145 : decode cX1_step 145 = .ok (.ifCond .eq 20, 3) := by decide +kernel
theorem dX1_step_148 : decode cX1_step 148 = .ok (.aload_n 0, 1) := by decide +kernel
theorem dX1_step_149 : decode cX1_step 149 = .ok (.getfield 21, 3) := by decide +kernel
theorem dX1_step_152 : decode cX1_step 152 = .ok (.iconst (-1), 1) := by decide +kernel
theorem dX1_step_153 : decode cX1_step 153 = .ok (.if_icmp .eq 12, 3) := by decide +kernel
theorem dX1_step_156 : decode cX1_step 156 = .ok (.aload_n 0, 1) := by decide +kernel
theorem dX1_step_157 : decode cX1_step 157 = .ok (.getfield 21, 3) := by decide +kernel
theorem dX1_step_160 : decode cX1_step 160 = .ok (.iconst 1, 1) := by decide +kernel
theorem dX1_step_161 : decode cX1_step 161 = .ok (.isub, 1) := by decide +kernel
theorem dX1_step_162 : decode cX1_step 162 = .ok (.goto 7, 3) := by decide +kernel
theorem dX1_step_165 : decode cX1_step 165 = .ok (.aload_n 0, 1) := by decide +kernel
theorem dX1_step_166 : decode cX1_step 166 = .ok (.getfield 21, 3) := by decide +kernel
theorem dX1_step_169 : decode cX1_step 169 = .ok (.putfield 21, 3) := by decide +kernel
theorem dX1_step_172 : decode cX1_step 172 = .ok (.return_, 1) := by decide +kernel
theorem dX1_perform_0 : decode cX1_perform 0 = .ok (.iload_n 1, 1) := by decide +kernel
theorem dX1_perform_1 : decode cX1_perform 1 = .ok (.bipush 7, 2) := by decide +kernel
theorem dX1_perform_3 : decode cX1_perform 3 = .ok (.bipush 11, 2) := by decide +kernel
theorem dX1_perform_5 : decode cX1_perform 5 = .ok (.invokestatic 46, 3) := by decide +kernel
theorem dX1_perform_8 : decode cX1_perform 8 = .ok (.istore_n 2, 1) := by decide +kernel
theorem dX1_perform_9 : decode cX1_perform 9 = .ok (.iload_n 1, 1) := by decide +kernel
theorem dX1_perform_10 : decode cX1_perform 10 = .ok (.bipush 12, 2) := by decide +kernel
theorem dX1_perform_12 : decode cX1_perform 12 = .ok (.bipush 14, 2) := by decide +kernel
theorem dX1_perform_14 : decode cX1_perform 14 = .ok (.invokestatic 46, 3) := by decide +kernel
theorem dX1_perform_17 : decode cX1_perform 17 = .ok (.istore_n 3, 1) := by decide +kernel
theorem dX1_perform_18 : decode cX1_perform 18 = .ok (.aload_n 0, 1) := by decide +kernel
theorem dX1_perform_19 : decode cX1_perform 19 = .ok (.getfield 14, 3) := by decide +kernel
theorem dX1_perform_22 : decode cX1_perform 22 = .ok (.iload_n 1, 1) := by decide +kernel
theorem dX1_perform_23 : decode cX1_perform 23 = .ok (.bipush 15, 2) := by decide +kernel
theorem dX1_perform_25 : decode cX1_perform 25 = .ok (.bipush 19, 2) := by decide +kernel
theorem dX1_perform_27 : decode cX1_perform 27 = .ok (.invokestatic 46, 3) := by decide +kernel
theorem dX1_perform_30 : decode cX1_perform 30 = .ok (.iaload, 1) := by decide +kernel
theorem dX1_perform_31 : decode cX1_perform 31 = .ok (.istore 4, 2) := by decide +kernel
theorem dX1_perform_33 : decode cX1_perform 33 = .ok (.aload_n 0, 1) := by decide +kernel
theorem dX1_perform_34 : decode cX1_perform 34 = .ok (.getfield 14, 3) := by decide +kernel
theorem dX1_perform_37 : decode cX1_perform 37 = .ok (.iload_n 1, 1) := by decide +kernel
theorem dX1_perform_38 : decode cX1_perform 38 = .ok (.bipush 20, 2) := by decide +kernel
theorem dX1_perform_40 : decode cX1_perform 40 = .ok (.bipush 24, 2) := by decide +kernel
theorem dX1_perform_42 : decode cX1_perform 42 = .ok (.invokestatic 46, 3) := by decide +kernel
theorem dX1_perform_45 : decode cX1_perform 45 = .ok (.iaload, 1) := by decide +kernel
theorem dX1_perform_46 : decode cX1_perform 46 = .ok (.istore 5, 2) := by decide +kernel
theorem dX1_perform_48 : decode cX1_perform 48 = .ok (.iload_n 1, 1) := by decide +kernel
theorem dX1_perform_49 : decode cX1_perform 49 = .ok (.bipush 20, 2) := by decide +kernel
theorem dX1_perform_51 : decode cX1_perform 51 = .ok (.ishr, 1) := by decide +kernel
theorem dX1_perform_52 : decode cX1_perform 52 = .ok (.istore 6, 2) := by decide +kernel
theorem dX1_perform_54 : decode cX1_perform 54 = .ok (.iload_n 1, 1) := by decide +kernel
theorem dX1_perform_55 : decode cX1_perform 55 = .ok (.iconst 0, 1) := by decide +kernel
theorem dX1_perform_56 : decode cX1_perform 56 = .ok (.bipush 6, 2) := by decide +kernel
theorem dX1_perform_58 : decode cX1_perform 58 = .ok (.invokestatic 46, 3) := by decide +kernel
theorem dX1_perform_61 : decode cX1_perform 61 = .ok (.lookupswitch 297 #[(3, 206), (15, 272), (19, 244), (23, 116), (35, 221), (51, 258), (55, 99), (99, 193), (103, 155), (111, 138), (115, 285)], 99) := by decide +kernel
theorem dX1_perform_160 : decode cX1_perform 160 = .ok (.aload_n 0, 1) := by decide +kernel
theorem dX1_perform_161 : decode cX1_perform 161 = .ok (.iload_n 2, 1) := by decide +kernel
theorem dX1_perform_162 : decode cX1_perform 162 = .ok (.iload_n 1, 1) := by decide +kernel
theorem dX1_perform_163 : decode cX1_perform 163 = .ok (.iload_n 1, 1) := by decide +kernel
theorem dX1_perform_164 : decode cX1_perform 164 = .ok (.iconst 0, 1) := by decide +kernel
theorem dX1_perform_165 : decode cX1_perform 165 = .ok (.bipush 11, 2) := by decide +kernel
theorem dX1_perform_167 : decode cX1_perform 167 = .ok (.invokestatic 46, 3) := by decide +kernel
theorem dX1_perform_170 : decode cX1_perform 170 = .ok (.isub, 1) := by decide +kernel
theorem dX1_perform_171 : decode cX1_perform 171 = .ok (.invokevirtual 112, 3) := by decide +kernel
theorem dX1_perform_174 : decode cX1_perform 174 = .ok (.goto 190, 3) := by decide +kernel
theorem dX1_perform_177 : decode cX1_perform 177 = .ok (.aload_n 0, 1) := by decide +kernel
theorem dX1_perform_178 : decode cX1_perform 178 = .ok (.iload_n 2, 1) := by decide +kernel
theorem dX1_perform_179 : decode cX1_perform 179 = .ok (.aload_n 0, 1) := by decide +kernel
theorem dX1_perform_180 : decode cX1_perform 180 = .ok (.getfield 75, 3) := by decide +kernel
theorem dX1_perform_183 : decode cX1_perform 183 = .ok (.iload_n 1, 1) := by decide +kernel
theorem dX1_perform_184 : decode cX1_perform 184 = .ok (.iadd, 1) := by decide +kernel
theorem dX1_perform_185 : decode cX1_perform 185 = .ok (.iload_n 1, 1) := by decide +kernel
theorem dX1_perform_186 : decode cX1_perform 186 = .ok (.iconst 0, 1) := by decide +kernel
theorem dX1_perform_187 : decode cX1_perform 187 = .ok (.bipush 11, 2) := by decide +kernel
theorem dX1_perform_189 : decode cX1_perform 189 = .ok (.invokestatic 46, 3) := by decide +kernel
theorem dX1_perform_192 : decode cX1_perform 192 = .ok (.isub, 1) := by decide +kernel
theorem dX1_perform_193 : decode cX1_perform 193 = .ok (.invokevirtual 112, 3) := by decide +kernel
theorem dX1_perform_196 : decode cX1_perform 196 = .ok (.goto 168, 3) := by decide +kernel
theorem dX1_perform_199 : decode cX1_perform 199 = .ok (.aload_n 0, 1) := by decide +kernel
theorem dX1_perform_200 : decode cX1_perform 200 = .ok (.aload_n 0, 1) := by decide +kernel
theorem dX1_perform_201 : decode cX1_perform 201 = .ok (.getfield 75, 3) := by decide +kernel
theorem dX1_perform_204 : decode cX1_perform 204 = .ok (.iload_n 1, 1) := by decide +kernel
theorem dX1_perform_205 : decode cX1_perform 205 = .ok (.invokestatic 115, 3) := by decide +kernel
theorem dX1_perform_208 : decode cX1_perform 208 = .ok (.iadd, 1) := by decide +kernel
theorem dX1_perform_209 : decode cX1_perform 209 = .ok (.iload_n 2, 1) := by decide +kernel
theorem dX1_perform_210 : decode cX1_perform 210 = .ok (.invokevirtual 118, 3) := by decide +kernel
theorem dX1_perform_213 : decode cX1_perform 213 = .ok (.goto 151, 3) := by decide +kernel
theorem dX1_perform_216 : decode cX1_perform 216 = .ok (.iload_n 3, 1) := by decide +kernel
theorem dX1_perform_217 : decode cX1_perform 217 = .ok (.ifCond .ne 28, 3) := by decide +kernel
theorem dX1_perform_220 : decode cX1_perform 220 = .ok (.iload 4, 2) := by decide +kernel
theorem dX1_perform_222 : decode cX1_perform 222 = .ok (.iload 6, 2) := by decide +kernel
theorem dX1_perform_224 : decode cX1_perform 224 = .ok (.iadd, 1) := by decide +kernel
theorem dX1_perform_225 : decode cX1_perform 225 = .ok (.istore 7, 2) := by decide +kernel
theorem dX1_perform_227 : decode cX1_perform 227 = .ok (.aload_n 0, 1) := by decide +kernel
theorem dX1_perform_228 : decode cX1_perform 228 = .ok (.iload 7, 2) := by decide +kernel
theorem dX1_perform_230 : decode cX1_perform 230 = .ok (.iload 7, 2) := by decide +kernel
theorem dX1_perform_232 : decode cX1_perform 232 = .ok (.iconst 0, 1) := by decide +kernel
theorem dX1_perform_233 : decode cX1_perform 233 = .ok (.iconst 0, 1) := by decide +kernel
theorem dX1_perform_234 : decode cX1_perform 234 = .ok (.invokestatic 46, 3) := by decide +kernel
theorem dX1_perform_237 : decode cX1_perform 237 = .ok (.isub, 1) := by decide +kernel
theorem dX1_perform_238 : decode cX1_perform 238 = .ok (.iload_n 2, 1) := by decide +kernel
theorem dX1_perform_239 : decode cX1_perform 239 = .ok (.invokevirtual 118, 3) := by decide +kernel
theorem dX1_perform_242 : decode cX1_perform 242 = .ok (.goto 122, 3) := by decide +kernel
theorem dX1_perform_245 : decode cX1_perform 245 = .ok (.aload_n 0, 1) := by decide +kernel
theorem dX1_perform_246 : decode cX1_perform 246 = .ok (.iconst 2, 1) := by decide +kernel
theorem dX1_perform_247 : decode cX1_perform 247 = .ok (.iload_n 1, 1) := by decide +kernel
theorem dX1_perform_248 : decode cX1_perform 248 = .ok (.invokevirtual 93, 3) := by decide +kernel
theorem dX1_perform_251 : decode cX1_perform 251 = .ok (.goto 113, 3) := by decide +kernel
theorem dX1_perform_254 : decode cX1_perform 254 = .ok (.aload_n 0, 1) := by decide +kernel
theorem dX1_perform_255 : decode cX1_perform 255 = .ok (.iload_n 1, 1) := by decide +kernel
theorem dX1_perform_256 : decode cX1_perform 256 = .ok (.iload_n 3, 1) := by decide +kernel
theorem dX1_perform_257 : decode cX1_perform 257 = .ok (.iload 4, 2) := by decide +kernel
theorem dX1_perform_259 : decode cX1_perform 259 = .ok (.iload 5, 2) := by decide +kernel
theorem dX1_perform_261 : decode cX1_perform 261 = .ok (.invokevirtual 121, 3) := by decide +kernel
theorem dX1_perform_264 : decode cX1_perform 264 = .ok (.goto 100, 3) := by decide +kernel
theorem dX1_perform_267 : decode cX1_perform 267 = .ok (.aload_n 0, 1) := by decide +kernel
theorem dX1_perform_268 : decode cX1_perform 268 = .ok (.iload_n 1, 1) := by decide +kernel
theorem dX1_perform_269 : decode cX1_perform 269 = .ok (.iload_n 3, 1) := by decide +kernel
theorem dX1_perform_270 : decode cX1_perform 270 = .ok (.iload_n 2, 1) := by decide +kernel
end
section
theorem dX1_perform_271 : decode cX1_perform 271 = .ok (.iload 4, 2) := by decide +kernel
theorem dX1_perform_273 : decode cX1_perform 273 = .ok (.iload 6, 2) := by decide +kernel
theorem dX1_perform_275 : decode cX1_perform 275 = .ok (.iadd, 1) := by decide +kernel
theorem dX1_perform_276 : decode cX1_perform 276 = .ok (.invokevirtual 125, 3) := by decide +kernel
theorem dX1_perform_279 : decode cX1_perform 279 = .ok (.goto 85, 3) := by decide +kernel
theorem dX1_perform_282 : decode cX1_perform 282 = .ok (.aload_n 0, 1) := by decide +kernel
theorem dX1_perform_283 : decode cX1_perform 283 = .ok (.iload_n 1, 1) := by decide +kernel
theorem dX1_perform_284 : decode cX1_perform 284 = .ok (.iload_n 3, 1) := by decide +kernel
theorem dX1_perform_285 : decode cX1_perform 285 = .ok (.iload 4, 2) := by decide +kernel
theorem dX1_perform_287 : decode cX1_perform 287 = .ok (.iload_n 1, 1) := by decide +kernel
theorem dX1_perform_288 : decode cX1_perform 288 = .ok (.bipush 25, 2) := by decide +kernel
theorem dX1_perform_290 : decode cX1_perform 290 = .ok (.ishr, 1) := by decide +kernel
theorem dX1_perform_291 : decode cX1_perform 291 = .ok (.bipush 32, 2) := by decide +kernel
theorem dX1_perform_293 : decode cX1_perform 293 = .ok (.imul, 1) := by decide +kernel
theorem dX1_perform_294 : decode cX1_perform 294 = .ok (.iadd, 1) := by decide +kernel
theorem dX1_perform_295 : decode cX1_perform 295 = .ok (.iload_n 2, 1) := by decide +kernel
theorem dX1_perform_296 : decode cX1_perform 296 = .ok (.iadd, 1) := by decide +kernel
theorem dX1_perform_297 : decode cX1_perform 297 = .ok (.iload 5, 2) := by decide +kernel
theorem dX1_perform_299 : decode cX1_perform 299 = .ok (.invokevirtual 128, 3) := by decide +kernel
theorem dX1_perform_302 : decode cX1_perform 302 = .ok (.goto 62, 3) := by decide +kernel
theorem dX1_perform_305 : decode cX1_perform 305 = .ok (.aload_n 0, 1) := by decide +kernel
theorem dX1_perform_306 : decode cX1_perform 306 = .ok (.iload_n 1, 1) := by decide +kernel
theorem dX1_perform_307 : decode cX1_perform 307 = .ok (.iload_n 3, 1) := by decide +kernel
theorem dX1_perform_308 : decode cX1_perform 308 = .ok (.iload_n 2, 1) := by decide +kernel
theorem dX1_perform_309 : decode cX1_perform 309 = .ok (.iload 4, 2) := by decide +kernel
theorem dX1_perform_311 : decode cX1_perform 311 = .ok (.iload 6, 2) := by decide +kernel
theorem dX1_perform_313 : decode cX1_perform 313 = .ok (.invokevirtual 131, 3) := by decide +kernel
theorem dX1_perform_316 : decode cX1_perform 316 = .ok (.goto 48, 3) := by decide +kernel
theorem dX1_perform_319 : decode cX1_perform 319 = .ok (.aload_n 0, 1) := by decide +kernel
theorem dX1_perform_320 : decode cX1_perform 320 = .ok (.iload_n 1, 1) := by decide +kernel
theorem dX1_perform_321 : decode cX1_perform 321 = .ok (.iload_n 3, 1) := by decide +kernel
theorem dX1_perform_322 : decode cX1_perform 322 = .ok (.iload_n 2, 1) := by decide +kernel
theorem dX1_perform_323 : decode cX1_perform 323 = .ok (.iload 4, 2) := by decide +kernel
theorem dX1_perform_325 : decode cX1_perform 325 = .ok (.iload 5, 2) := by decide +kernel
theorem dX1_perform_327 : decode cX1_perform 327 = .ok (.invokevirtual 135, 3) := by decide +kernel
theorem dX1_perform_330 : decode cX1_perform 330 = .ok (.goto 34, 3) := by decide +kernel
theorem dX1_perform_333 : decode cX1_perform 333 = .ok (.iload_n 3, 1) := by decide +kernel
theorem dX1_perform_334 : decode cX1_perform 334 = .ok (.ifCond .eq 30, 3) := by decide +kernel
theorem dX1_perform_337 : decode cX1_perform 337 = .ok (.aload_n 0, 1) := by decide +kernel
theorem dX1_perform_338 : decode cX1_perform 338 = .ok (.iconst 2, 1) := by decide +kernel
theorem dX1_perform_339 : decode cX1_perform 339 = .ok (.iload_n 1, 1) := by decide +kernel
theorem dX1_perform_340 : decode cX1_perform 340 = .ok (.invokevirtual 93, 3) := by decide +kernel
theorem dX1_perform_343 : decode cX1_perform 343 = .ok (.goto 21, 3) := by decide +kernel
theorem dX1_perform_346 : decode cX1_perform 346 = .ok (.aload_n 0, 1) := by decide +kernel
theorem dX1_perform_347 : decode cX1_perform 347 = .ok (.iload_n 1, 1) := by decide +kernel
theorem dX1_perform_348 : decode cX1_perform 348 = .ok (.iload_n 3, 1) := by decide +kernel
theorem dX1_perform_349 : decode cX1_perform 349 = .ok (.iload_n 2, 1) := by decide +kernel
theorem dX1_perform_350 : decode cX1_perform 350 = .ok (.iload 4, 2) := by decide +kernel
theorem dX1_perform_352 : decode cX1_perform 352 = .ok (.invokevirtual 138, 3) := by decide +kernel
theorem dX1_perform_355 : decode cX1_perform 355 = .ok (.goto 9, 3) := by decide +kernel
theorem dX1_perform_358 : decode cX1_perform 358 = .ok (.aload_n 0, 1) := by decide +kernel
theorem dX1_perform_359 : decode cX1_perform 359 = .ok (.iconst 2, 1) := by decide +kernel
theorem dX1_perform_360 : decode cX1_perform 360 = .ok (.iload_n 1, 1) := by decide +kernel
theorem dX1_perform_361 : decode cX1_perform 361 = .ok (.invokevirtual 93, 3) := by decide +kernel
theorem dX1_perform_364 : decode cX1_perform 364 = .ok (.return_, 1) := by decide +kernel
theorem dX1_far_0 : decode cX1_far 0 = .ok (.iload_n 0, 1) := by decide +kernel
theorem dX1_far_1 : decode cX1_far 1 = .ok (.bipush 31, 2) := by decide +kernel
theorem dX1_far_3 : decode cX1_far 3 = .ok (.ishr, 1) := by decide +kernel
theorem dX1_far_4 : decode cX1_far 4 = .ok (.ldc 141, 2) := by decide +kernel
theorem dX1_far_6 : decode cX1_far 6 = .ok (.imul, 1) := by decide +kernel
theorem dX1_far_7 : decode cX1_far 7 = .ok (.iload_n 0, 1) := by decide +kernel
theorem dX1_far_8 : decode cX1_far 8 = .ok (.bipush 12, 2) := by decide +kernel
theorem dX1_far_10 : decode cX1_far 10 = .ok (.bipush 19, 2) := by decide +kernel
theorem dX1_far_12 : decode cX1_far 12 = .ok (.invokestatic 46, 3) := by decide +kernel
theorem dX1_far_15 : decode cX1_far 15 = .ok (.sipush 4096, 3) := by decide +kernel
theorem dX1_far_18 : decode cX1_far 18 = .ok (.imul, 1) := by decide +kernel
theorem dX1_far_19 : decode cX1_far 19 = .ok (.iadd, 1) := by decide +kernel
theorem dX1_far_20 : decode cX1_far 20 = .ok (.iload_n 0, 1) := by decide +kernel
theorem dX1_far_21 : decode cX1_far 21 = .ok (.bipush 20, 2) := by decide +kernel
theorem dX1_far_23 : decode cX1_far 23 = .ok (.bipush 20, 2) := by decide +kernel
theorem dX1_far_25 : decode cX1_far 25 = .ok (.invokestatic 46, 3) := by decide +kernel
theorem dX1_far_28 : decode cX1_far 28 = .ok (.sipush 2048, 3) := by decide +kernel
theorem dX1_far_31 : decode cX1_far 31 = .ok (.imul, 1) := by decide +kernel
theorem dX1_far_32 : decode cX1_far 32 = .ok (.iadd, 1) := by decide +kernel
theorem dX1_far_33 : decode cX1_far 33 = .ok (.iload_n 0, 1) := by decide +kernel
theorem dX1_far_34 : decode cX1_far 34 = .ok (.bipush 21, 2) := by decide +kernel
theorem dX1_far_36 : decode cX1_far 36 = .ok (.bipush 30, 2) := by decide +kernel
theorem dX1_far_38 : decode cX1_far 38 = .ok (.invokestatic 46, 3) := by decide +kernel
theorem dX1_far_41 : decode cX1_far 41 = .ok (.iconst 2, 1) := by decide +kernel
theorem dX1_far_42 : decode cX1_far 42 = .ok (.imul, 1) := by decide +kernel
theorem dX1_far_43 : decode cX1_far 43 = .ok (.iadd, 1) := by decide +kernel
theorem dX1_far_44 : decode cX1_far 44 = .ok (.ireturn, 1) := by decide +kernel
theorem dX1_near_0 : decode cX1_near 0 = .ok (.iload_n 0, 1) := by decide +kernel
theorem dX1_near_1 : decode cX1_near 1 = .ok (.bipush 31, 2) := by decide +kernel
theorem dX1_near_3 : decode cX1_near 3 = .ok (.ishr, 1) := by decide +kernel
theorem dX1_near_4 : decode cX1_near 4 = .ok (.sipush 4096, 3) := by decide +kernel
theorem dX1_near_7 : decode cX1_near 7 = .ok (.imul, 1) := by decide +kernel
theorem dX1_near_8 : decode cX1_near 8 = .ok (.iload_n 0, 1) := by decide +kernel
theorem dX1_near_9 : decode cX1_near 9 = .ok (.bipush 7, 2) := by decide +kernel
theorem dX1_near_11 : decode cX1_near 11 = .ok (.bipush 7, 2) := by decide +kernel
theorem dX1_near_13 : decode cX1_near 13 = .ok (.invokestatic 46, 3) := by decide +kernel
theorem dX1_near_16 : decode cX1_near 16 = .ok (.sipush 2048, 3) := by decide +kernel
theorem dX1_near_19 : decode cX1_near 19 = .ok (.imul, 1) := by decide +kernel
theorem dX1_near_20 : decode cX1_near 20 = .ok (.iadd, 1) := by decide +kernel
theorem dX1_near_21 : decode cX1_near 21 = .ok (.iload_n 0, 1) := by decide +kernel
theorem dX1_near_22 : decode cX1_near 22 = .ok (.bipush 25, 2) := by decide +kernel
theorem dX1_near_24 : decode cX1_near 24 = .ok (.bipush 30, 2) := by decide +kernel
theorem dX1_near_26 : decode cX1_near 26 = .ok (.invokestatic 46, 3) := by decide +kernel
theorem dX1_near_29 : decode cX1_near 29 = .ok (.bipush 32, 2) := by decide +kernel
theorem dX1_near_31 : decode cX1_near 31 = .ok (.imul, 1) := by decide +kernel
theorem dX1_near_32 : decode cX1_near 32 = .ok (.iadd, 1) := by decide +kernel
theorem dX1_near_33 : decode cX1_near 33 = .ok (.iload_n 0, 1) := by decide +kernel
theorem dX1_near_34 : decode cX1_near 34 = .ok (.bipush 8, 2) := by decide +kernel
theorem dX1_near_36 : decode cX1_near 36 = .ok (.bipush 11, 2) := by decide +kernel
theorem dX1_near_38 : decode cX1_near 38 = .ok (.invokestatic 46, 3) := by decide +kernel
theorem dX1_near_41 : decode cX1_near 41 = .ok (.iconst 2, 1) := by decide +kernel
theorem dX1_near_42 : decode cX1_near 42 = .ok (.imul, 1) := by decide +kernel
theorem dX1_near_43 : decode cX1_near 43 = .ok (.iadd, 1) := by decide +kernel
theorem dX1_near_44 : decode cX1_near 44 = .ok (.ireturn, 1) := by decide +kernel
theorem dX1_jump_0 : decode cX1_jump 0 = .ok (.iload_n 1, 1) := by decide +kernel
theorem dX1_jump_1 : decode cX1_jump 1 = .ok (.iconst 0, 1) := by decide +kernel
theorem dX1_jump_2 : decode cX1_jump 2 = .ok (.iconst 1, 1) := by decide +kernel
theorem dX1_jump_3 : decode cX1_jump 3 = .ok (.invokestatic 46, 3) := by decide +kernel
theorem dX1_jump_6 : decode cX1_jump 6 = .ok (.ifCond .eq 10, 3) := by decide +kernel
theorem dX1_jump_9 : decode cX1_jump 9 = .ok (.aload_n 0, 1) := by decide +kernel
theorem dX1_jump_10 : decode cX1_jump 10 = .ok (.iconst 0, 1) := by decide +kernel
theorem dX1_jump_11 : decode cX1_jump 11 = .ok (.iload_n 1, 1) := by decide +kernel
theorem dX1_jump_12 : decode cX1_jump 12 = .ok (.invokevirtual 93, 3) := by decide +kernel
theorem dX1_jump_15 : decode cX1_jump 15 = .ok (.return_, 1) := by decide +kernel
theorem dX1_jump_16 : decode cX1_jump 16 = .ok (.aload_n 0, 1) := by decide +kernel
theorem dX1_jump_17 : decode cX1_jump 17 = .ok (.iload_n 2, 1) := by decide +kernel
theorem dX1_jump_18 : decode cX1_jump 18 = .ok (.aload_n 0, 1) := by decide +kernel
theorem dX1_jump_19 : decode cX1_jump 19 = .ok (.getfield 75, 3) := by decide +kernel
theorem dX1_jump_22 : decode cX1_jump 22 = .ok (.iconst 4, 1) := by decide +kernel
theorem dX1_jump_23 : decode cX1_jump 23 = .ok (.iadd, 1) := by decide +kernel
theorem dX1_jump_24 : decode cX1_jump 24 = .ok (.invokevirtual 112, 3) := by decide +kernel
theorem dX1_jump_27 : decode cX1_jump 27 = .ok (.aload_n 0, 1) := by decide +kernel
theorem dX1_jump_28 : decode cX1_jump 28 = .ok (.iload_n 1, 1) := by decide +kernel
theorem dX1_jump_29 : decode cX1_jump 29 = .ok (.putfield 105, 3) := by decide +kernel
theorem dX1_jump_32 : decode cX1_jump 32 = .ok (.return_, 1) := by decide +kernel
theorem dX1_branch_0 : decode cX1_branch 0 = .ok (.iload_n 2, 1) := by decide +kernel
theorem dX1_branch_1 : decode cX1_branch 1 = .ok (.iconst 2, 1) := by decide +kernel
theorem dX1_branch_2 : decode cX1_branch 2 = .ok (.if_icmp .eq 8, 3) := by decide +kernel
theorem dX1_branch_5 : decode cX1_branch 5 = .ok (.iload_n 2, 1) := by decide +kernel
theorem dX1_branch_6 : decode cX1_branch 6 = .ok (.iconst 3, 1) := by decide +kernel
theorem dX1_branch_7 : decode cX1_branch 7 = .ok (.if_icmp .ne 10, 3) := by decide +kernel
theorem dX1_branch_10 : decode cX1_branch 10 = .ok (.aload_n 0, 1) := by decide +kernel
theorem dX1_branch_11 : decode cX1_branch 11 = .ok (.iconst 2, 1) := by decide +kernel
theorem dX1_branch_12 : decode cX1_branch 12 = .ok (.iload_n 1, 1) := by decide +kernel
theorem dX1_branch_13 : decode cX1_branch 13 = .ok (.invokevirtual 93, 3) := by decide +kernel
theorem dX1_branch_16 : decode cX1_branch 16 = .ok (.return_, 1) := by decide +kernel
theorem dX1_branch_17 : decode cX1_branch 17 = .ok (.iload_n 2, 1) := by decide +kernel
theorem dX1_branch_18 : decode cX1_branch 18 = .ok (.iconst 2, 1) := by decide +kernel
theorem dX1_branch_19 : decode cX1_branch 19 = .ok (.if_icmp .ge 17, 3) := by decide +kernel
theorem dX1_branch_22 : decode cX1_branch 22 = .ok (.iload_n 3, 1) := by decide +kernel
theorem dX1_branch_23 : decode cX1_branch 23 = .ok (.iload 4, 2) := by decide +kernel
theorem dX1_branch_25 : decode cX1_branch 25 = .ok (.if_icmp .ne 7, 3) := by decide +kernel
theorem dX1_branch_28 : decode cX1_branch 28 = .ok (.iconst 1, 1) := by decide +kernel
theorem dX1_branch_29 : decode cX1_branch 29 = .ok (.goto 45, 3) := by decide +kernel
theorem dX1_branch_32 : decode cX1_branch 32 = .ok (.iconst 0, 1) := by decide +kernel
theorem dX1_branch_33 : decode cX1_branch 33 = .ok (.goto 41, 3) := by decide +kernel
theorem dX1_branch_36 : decode cX1_branch 36 = .ok (.iload_n 2, 1) := by decide +kernel
theorem dX1_branch_37 : decode cX1_branch 37 = .ok (.bipush 6, 2) := by decide +kernel
theorem dX1_branch_39 : decode cX1_branch 39 = .ok (.if_icmp .ge 17, 3) := by decide +kernel
theorem dX1_branch_42 : decode cX1_branch 42 = .ok (.iload_n 3, 1) := by decide +kernel
theorem dX1_branch_43 : decode cX1_branch 43 = .ok (.iload 4, 2) := by decide +kernel
theorem dX1_branch_45 : decode cX1_branch 45 = .ok (.if_icmp .ge 7, 3) := by decide +kernel
theorem dX1_branch_48 : decode cX1_branch 48 = .ok (.iconst 1, 1) := by decide +kernel
theorem dX1_branch_49 : decode cX1_branch 49 = .ok (.goto 25, 3) := by decide +kernel
theorem dX1_branch_52 : decode cX1_branch 52 = .ok (.iconst 0, 1) := by decide +kernel
theorem dX1_branch_53 : decode cX1_branch 53 = .ok (.goto 21, 3) := by decide +kernel
theorem dX1_branch_56 : decode cX1_branch 56 = .ok (.iload_n 3, 1) := by decide +kernel
theorem dX1_branch_57 : decode cX1_branch 57 = .ok (.invokestatic 36, 3) := by decide +kernel
theorem dX1_branch_60 : decode cX1_branch 60 = .ok (.iload 4, 2) := by decide +kernel
theorem dX1_branch_62 : decode cX1_branch 62 = .ok (.invokestatic 36, 3) := by decide +kernel
theorem dX1_branch_65 : decode cX1_branch 65 = .ok (.lcmp, 1) := by decide +kernel
theorem dX1_branch_66 : decode cX1_branch 66 = .ok (.ifCond .ge 7, 3) := by decide +kernel
theorem dX1_branch_69 : decode cX1_branch 69 = .ok (.iconst 1, 1) := by decide +kernel
theorem dX1_branch_70 : decode cX1_branch 70 = .ok (.goto 4, 3) := by decide +kernel
theorem dX1_branch_73 : decode cX1_branch 73 = .ok (.iconst 0, 1) := by decide +kernel
theorem dX1_branch_74 : decode cX1_branch 74 = .ok (.istore 5, 2) := by decide +kernel
theorem dX1_branch_76 : decode cX1_branch 76 = .ok (.iload 5, 2) := by decide +kernel
theorem dX1_branch_78 : decode cX1_branch 78 = .ok (.iload_n 2, 1) := by decide +kernel
theorem dX1_branch_79 : decode cX1_branch 79 = .ok (.iconst 2, 1) := by decide +kernel
theorem dX1_branch_80 : decode cX1_branch 80 = .ok (.irem, 1) := by decide +kernel
theorem dX1_branch_81 : decode cX1_branch 81 = .ok (.ifCond .ne 7, 3) := by decide +kernel
theorem dX1_branch_84 : decode cX1_branch 84 = .ok (.iconst 1, 1) := by decide +kernel
theorem dX1_branch_85 : decode cX1_branch 85 = .ok (.goto 4, 3) := by decide +kernel
theorem dX1_branch_88 : decode cX1_branch 88 = .ok (.iconst 0, 1) := by decide +kernel
theorem dX1_branch_89 : decode cX1_branch 89 = .ok (.if_icmp .ne 17, 3) := by decide +kernel
theorem dX1_branch_92 : decode cX1_branch 92 = .ok (.aload_n 0, 1) := by decide +kernel
theorem dX1_branch_93 : decode cX1_branch 93 = .ok (.aload_n 0, 1) := by decide +kernel
theorem dX1_branch_94 : decode cX1_branch 94 = .ok (.getfield 75, 3) := by decide +kernel
theorem dX1_branch_97 : decode cX1_branch 97 = .ok (.iload_n 1, 1) := by decide +kernel
theorem dX1_branch_98 : decode cX1_branch 98 = .ok (.invokestatic 142, 3) := by decide +kernel
theorem dX1_branch_101 : decode cX1_branch 101 = .ok (.iadd, 1) := by decide +kernel
theorem dX1_branch_102 : decode cX1_branch 102 = .ok (.iconst 0, 1) := by decide +kernel
theorem dX1_branch_103 : decode cX1_branch 103 = .ok (.invokevirtual 118, 3) := by decide +kernel
theorem dX1_branch_106 : decode cX1_branch 106 = .ok (.return_, 1) := by decide +kernel
theorem dX1_load_0 : decode cX1_load 0 = .ok (.iload_n 2, 1) := by decide +kernel
theorem dX1_load_1 : decode cX1_load 1 = .ok (.iconst 3, 1) := by decide +kernel
theorem dX1_load_2 : decode cX1_load 2 = .ok (.if_icmp .eq 8, 3) := by decide +kernel
theorem dX1_load_5 : decode cX1_load 5 = .ok (.iload_n 2, 1) := by decide +kernel
theorem dX1_load_6 : decode cX1_load 6 = .ok (.iconst 5, 1) := by decide +kernel
theorem dX1_load_7 : decode cX1_load 7 = .ok (.if_icmp .le 10, 3) := by decide +kernel
theorem dX1_load_10 : decode cX1_load 10 = .ok (.aload_n 0, 1) := by decide +kernel
theorem dX1_load_11 : decode cX1_load 11 = .ok (.iconst 2, 1) := by decide +kernel
theorem dX1_load_12 : decode cX1_load 12 = .ok (.iload_n 1, 1) := by decide +kernel
theorem dX1_load_13 : decode cX1_load 13 = .ok (.invokevirtual 93, 3) := by decide +kernel
theorem dX1_load_16 : decode cX1_load 16 = .ok (.return_, 1) := by decide +kernel
theorem dX1_load_17 : decode cX1_load 17 = .ok (.iload_n 2, 1) := by decide +kernel
theorem dX1_load_18 : decode cX1_load 18 = .ok (.iconst 4, 1) := by decide +kernel
theorem dX1_load_19 : decode cX1_load 19 = .ok (.irem, 1) := by decide +kernel
theorem dX1_load_20 : decode cX1_load 20 = .ok (.ifCond .ne 7, 3) := by decide +kernel
theorem dX1_load_23 : decode cX1_load 23 = .ok (.iconst 1, 1) := by decide +kernel
theorem dX1_load_24 : decode cX1_load 24 = .ok (.goto 15, 3) := by decide +kernel
theorem dX1_load_27 : decode cX1_load 27 = .ok (.iload_n 2, 1) := by decide +kernel
theorem dX1_load_28 : decode cX1_load 28 = .ok (.iconst 4, 1) := by decide +kernel
theorem dX1_load_29 : decode cX1_load 29 = .ok (.irem, 1) := by decide +kernel
theorem dX1_load_30 : decode cX1_load 30 = .ok (.iconst 1, 1) := by decide +kernel
theorem dX1_load_31 : decode cX1_load 31 = .ok (.if_icmp .ne 7, 3) := by decide +kernel
theorem dX1_load_34 : decode cX1_load 34 = .ok (.iconst 2, 1) := by decide +kernel
theorem dX1_load_35 : decode cX1_load 35 = .ok (.goto 4, 3) := by decide +kernel
theorem dX1_load_38 : decode cX1_load 38 = .ok (.iconst 4, 1) := by decide +kernel
theorem dX1_load_39 : decode cX1_load 39 = .ok (.istore 5, 2) := by decide +kernel
theorem dX1_load_41 : decode cX1_load 41 = .ok (.aload_n 0, 1) := by decide +kernel
theorem dX1_load_42 : decode cX1_load 42 = .ok (.iload 4, 2) := by decide +kernel
theorem dX1_load_44 : decode cX1_load 44 = .ok (.iload 5, 2) := by decide +kernel
theorem dX1_load_46 : decode cX1_load 46 = .ok (.iconst 1, 1) := by decide +kernel
theorem dX1_load_47 : decode cX1_load 47 = .ok (.invokevirtual 102, 3) := by decide +kernel
theorem dX1_load_50 : decode cX1_load 50 = .ok (.istore 6, 2) := by decide +kernel
theorem dX1_load_52 : decode cX1_load 52 = .ok (.aload_n 0, 1) := by decide +kernel
theorem dX1_load_53 : decode cX1_load 53 = .ok (.getfield 90, 3) := by decide +kernel
theorem dX1_load_56 : decode cX1_load 56 = .ok (.ifCond .eq 4, 3) := by decide +kernel
theorem dX1_load_59 : decode cX1_load 59 = .ok (.return_, 1) := by decide +kernel
theorem dX1_load_60 : decode cX1_load 60 = .ok (.bipush 8, 2) := by decide +kernel
theorem dX1_load_62 : decode cX1_load 62 = .ok (.iload 6, 2) := by decide +kernel
theorem dX1_load_64 : decode cX1_load 64 = .ok (.iconst 0, 1) := by decide +kernel
theorem dX1_load_65 : decode cX1_load 65 = .ok (.iconst 1, 1) := by decide +kernel
theorem dX1_load_66 : decode cX1_load 66 = .ok (.invokestatic 46, 3) := by decide +kernel
theorem dX1_load_69 : decode cX1_load 69 = .ok (.imul, 1) := by decide +kernel
theorem dX1_load_70 : decode cX1_load 70 = .ok (.istore 7, 2) := by decide +kernel
theorem dX1_load_72 : decode cX1_load 72 = .ok (.aload_n 0, 1) := by decide +kernel
theorem dX1_load_73 : decode cX1_load 73 = .ok (.getfield 8, 3) := by decide +kernel
theorem dX1_load_76 : decode cX1_load 76 = .ok (.iload 6, 2) := by decide +kernel
theorem dX1_load_78 : decode cX1_load 78 = .ok (.iconst 4, 1) := by decide +kernel
theorem dX1_load_79 : decode cX1_load 79 = .ok (.idiv, 1) := by decide +kernel
theorem dX1_load_80 : decode cX1_load 80 = .ok (.iaload, 1) := by decide +kernel
theorem dX1_load_81 : decode cX1_load 81 = .ok (.iload 7, 2) := by decide +kernel
theorem dX1_load_83 : decode cX1_load 83 = .ok (.iload 7, 2) := by decide +kernel
theorem dX1_load_85 : decode cX1_load 85 = .ok (.bipush 8, 2) := by decide +kernel
theorem dX1_load_87 : decode cX1_load 87 = .ok (.iload 5, 2) := by decide +kernel
theorem dX1_load_89 : decode cX1_load 89 = .ok (.imul, 1) := by decide +kernel
theorem dX1_load_90 : decode cX1_load 90 = .ok (.iadd, 1) := by decide +kernel
theorem dX1_load_91 : decode cX1_load 91 = .ok (.iconst 1, 1) := by decide +kernel
theorem dX1_load_92 : decode cX1_load 92 = .ok (.isub, 1) := by decide +kernel
theorem dX1_load_93 : decode cX1_load 93 = .ok (.invokestatic 46, 3) := by decide +kernel
theorem dX1_load_96 : decode cX1_load 96 = .ok (.istore 8, 2) := by decide +kernel
theorem dX1_load_98 : decode cX1_load 98 = .ok (.iload_n 2, 1) := by decide +kernel
theorem dX1_load_99 : decode cX1_load 99 = .ok (.iconst 2, 1) := by decide +kernel
theorem dX1_load_100 : decode cX1_load 100 = .ok (.if_icmp .ge 22, 3) := by decide +kernel
theorem dX1_load_103 : decode cX1_load 103 = .ok (.iload 8, 2) := by decide +kernel
theorem dX1_load_105 : decode cX1_load 105 = .ok (.bipush 8, 2) := by decide +kernel
theorem dX1_load_107 : decode cX1_load 107 = .ok (.iload 5, 2) := by decide +kernel
theorem dX1_load_109 : decode cX1_load 109 = .ok (.imul, 1) := by decide +kernel
theorem dX1_load_110 : decode cX1_load 110 = .ok (.iconst 1, 1) := by decide +kernel
theorem dX1_load_111 : decode cX1_load 111 = .ok (.isub, 1) := by decide +kernel
theorem dX1_load_112 : decode cX1_load 112 = .ok (.invokestatic 42, 3) := by decide +kernel
theorem dX1_load_115 : decode cX1_load 115 = .ok (.ifCond .eq 7, 3) := by decide +kernel
theorem dX1_load_118 : decode cX1_load 118 = .ok (.iconst 1, 1) := by decide +kernel
theorem dX1_load_119 : decode cX1_load 119 = .ok (.goto 4, 3) := by decide +kernel
theorem dX1_load_122 : decode cX1_load 122 = .ok (.iconst 0, 1) := by decide +kernel
theorem dX1_load_123 : decode cX1_load 123 = .ok (.istore 9, 2) := by decide +kernel
theorem dX1_load_125 : decode cX1_load 125 = .ok (.aload_n 0, 1) := by decide +kernel
theorem dX1_load_126 : decode cX1_load 126 = .ok (.iload_n 3, 1) := by decide +kernel
theorem dX1_load_127 : decode cX1_load 127 = .ok (.iload 9, 2) := by decide +kernel
theorem dX1_load_129 : decode cX1_load 129 = .ok (.ifCond .eq 16, 3) := by decide +kernel
theorem dX1_load_132 : decode cX1_load 132 = .ok (.iload 8, 2) := by decide +kernel
theorem dX1_load_134 : decode cX1_load 134 = .ok (.iconst 1, 1) := by decide +kernel
theorem dX1_load_135 : decode cX1_load 135 = .ok (.bipush 8, 2) := by decide +kernel
theorem dX1_load_137 : decode cX1_load 137 = .ok (.iload 5, 2) := by decide +kernel
theorem dX1_load_139 : decode cX1_load 139 = .ok (.imul, 1) := by decide +kernel
theorem dX1_load_140 : decode cX1_load 140 = .ok (.ishl, 1) := by decide +kernel
theorem dX1_load_141 : decode cX1_load 141 = .ok (.isub, 1) := by decide +kernel
theorem dX1_load_142 : decode cX1_load 142 = .ok (.goto 5, 3) := by decide +kernel
theorem dX1_load_145 : decode cX1_load 145 = .ok (.iload 8, 2) := by decide +kernel
theorem dX1_load_147 : decode cX1_load 147 = .ok (.invokevirtual 112, 3) := by decide +kernel
theorem dX1_load_150 : decode cX1_load 150 = .ok (.return_, 1) := by decide +kernel
theorem dX1_store_0 : decode cX1_store 0 = .ok (.iload_n 2, 1) := by decide +kernel
theorem dX1_store_1 : decode cX1_store 1 = .ok (.iconst 2, 1) := by decide +kernel
theorem dX1_store_2 : decode cX1_store 2 = .ok (.if_icmp .le 10, 3) := by decide +kernel
theorem dX1_store_5 : decode cX1_store 5 = .ok (.aload_n 0, 1) := by decide +kernel
theorem dX1_store_6 : decode cX1_store 6 = .ok (.iconst 2, 1) := by decide +kernel
theorem dX1_store_7 : decode cX1_store 7 = .ok (.iload_n 1, 1) := by decide +kernel
theorem dX1_store_8 : decode cX1_store 8 = .ok (.invokevirtual 93, 3) := by decide +kernel
theorem dX1_store_11 : decode cX1_store 11 = .ok (.return_, 1) := by decide +kernel
theorem dX1_store_12 : decode cX1_store 12 = .ok (.iload_n 2, 1) := by decide +kernel
theorem dX1_store_13 : decode cX1_store 13 = .ok (.ifCond .ne 7, 3) := by decide +kernel
theorem dX1_store_16 : decode cX1_store 16 = .ok (.iconst 1, 1) := by decide +kernel
theorem dX1_store_17 : decode cX1_store 17 = .ok (.goto 13, 3) := by decide +kernel
theorem dX1_store_20 : decode cX1_store 20 = .ok (.iload_n 2, 1) := by decide +kernel
theorem dX1_store_21 : decode cX1_store 21 = .ok (.iconst 1, 1) := by decide +kernel
theorem dX1_store_22 : decode cX1_store 22 = .ok (.if_icmp .ne 7, 3) := by decide +kernel
theorem dX1_store_25 : decode cX1_store 25 = .ok (.iconst 2, 1) := by decide +kernel
theorem dX1_store_26 : decode cX1_store 26 = .ok (.goto 4, 3) := by decide +kernel
theorem dX1_store_29 : decode cX1_store 29 = .ok (.iconst 4, 1) := by decide +kernel
theorem dX1_store_30 : decode cX1_store 30 = .ok (.istore 5, 2) := by decide +kernel
theorem dX1_store_32 : decode cX1_store 32 = .ok (.aload_n 0, 1) := by decide +kernel
theorem dX1_store_33 : decode cX1_store 33 = .ok (.iload_n 3, 1) := by decide +kernel
theorem dX1_store_34 : decode cX1_store 34 = .ok (.iload 5, 2) := by decide +kernel
theorem dX1_store_36 : decode cX1_store 36 = .ok (.iconst 2, 1) := by decide +kernel
theorem dX1_store_37 : decode cX1_store 37 = .ok (.invokevirtual 102, 3) := by decide +kernel
theorem dX1_store_40 : decode cX1_store 40 = .ok (.istore 6, 2) := by decide +kernel
theorem dX1_store_42 : decode cX1_store 42 = .ok (.aload_n 0, 1) := by decide +kernel
theorem dX1_store_43 : decode cX1_store 43 = .ok (.getfield 90, 3) := by decide +kernel
theorem dX1_store_46 : decode cX1_store 46 = .ok (.ifCond .eq 4, 3) := by decide +kernel
theorem dX1_store_49 : decode cX1_store 49 = .ok (.return_, 1) := by decide +kernel
theorem dX1_store_50 : decode cX1_store 50 = .ok (.bipush 8, 2) := by decide +kernel
theorem dX1_store_52 : decode cX1_store 52 = .ok (.iload 6, 2) := by decide +kernel
theorem dX1_store_54 : decode cX1_store 54 = .ok (.iconst 0, 1) := by decide +kernel
theorem dX1_store_55 : decode cX1_store 55 = .ok (.iconst 1, 1) := by decide +kernel
theorem dX1_store_56 : decode cX1_store 56 = .ok (.invokestatic 46, 3) := by decide +kernel
theorem dX1_store_59 : decode cX1_store 59 = .ok (.imul, 1) := by decide +kernel
theorem dX1_store_60 : decode cX1_store 60 = .ok (.istore 7, 2) := by decide +kernel
theorem dX1_store_62 : decode cX1_store 62 = .ok (.lconst 1, 1) := by decide +kernel
theorem dX1_store_63 : decode cX1_store 63 = .ok (.bipush 8, 2) := by decide +kernel
theorem dX1_store_65 : decode cX1_store 65 = .ok (.iload 5, 2) := by decide +kernel
theorem dX1_store_67 : decode cX1_store 67 = .ok (.imul, 1) := by decide +kernel
theorem dX1_store_68 : decode cX1_store 68 = .ok (.lshl, 1) := by decide +kernel
theorem dX1_store_69 : decode cX1_store 69 = .ok (.lconst 1, 1) := by decide +kernel
theorem dX1_store_70 : decode cX1_store 70 = .ok (.lsub, 1) := by decide +kernel
theorem dX1_store_71 : decode cX1_store 71 = .ok (.iload 7, 2) := by decide +kernel
theorem dX1_store_73 : decode cX1_store 73 = .ok (.lshl, 1) := by decide +kernel
theorem dX1_store_74 : decode cX1_store 74 = .ok (.lstore 8, 2) := by decide +kernel
theorem dX1_store_76 : decode cX1_store 76 = .ok (.aload_n 0, 1) := by decide +kernel
theorem dX1_store_77 : decode cX1_store 77 = .ok (.getfield 8, 3) := by decide +kernel
theorem dX1_store_80 : decode cX1_store 80 = .ok (.iload 6, 2) := by decide +kernel
theorem dX1_store_82 : decode cX1_store 82 = .ok (.iconst 4, 1) := by decide +kernel
theorem dX1_store_83 : decode cX1_store 83 = .ok (.idiv, 1) := by decide +kernel
theorem dX1_store_84 : decode cX1_store 84 = .ok (.iaload, 1) := by decide +kernel
theorem dX1_store_85 : decode cX1_store 85 = .ok (.invokestatic 36, 3) := by decide +kernel
theorem dX1_store_88 : decode cX1_store 88 = .ok (.lstore 10, 2) := by decide +kernel
theorem dX1_store_90 : decode cX1_store 90 = .ok (.aload_n 0, 1) := by decide +kernel
theorem dX1_store_91 : decode cX1_store 91 = .ok (.getfield 8, 3) := by decide +kernel
theorem dX1_store_94 : decode cX1_store 94 = .ok (.iload 6, 2) := by decide +kernel
theorem dX1_store_96 : decode cX1_store 96 = .ok (.iconst 4, 1) := by decide +kernel
theorem dX1_store_97 : decode cX1_store 97 = .ok (.idiv, 1) := by decide +kernel
theorem dX1_store_98 : decode cX1_store 98 = .ok (.lload 10, 2) := by decide +kernel
theorem dX1_store_100 : decode cX1_store 100 = .ok (.lload 10, 2) := by decide +kernel
theorem dX1_store_102 : decode cX1_store 102 = .ok (.lload 8, 2) := by decide +kernel
theorem dX1_store_104 : decode cX1_store 104 = .ok (.land, 1) := by decide +kernel
theorem dX1_store_105 : decode cX1_store 105 = .ok (.lsub, 1) := by decide +kernel
theorem dX1_store_106 : decode cX1_store 106 = .ok (.iload 4, 2) := by decide +kernel
theorem dX1_store_108 : decode cX1_store 108 = .ok (.invokestatic 36, 3) := by decide +kernel
theorem dX1_store_111 : decode cX1_store 111 = .ok (.iload 7, 2) := by decide +kernel
theorem dX1_store_113 : decode cX1_store 113 = .ok (.lshl, 1) := by decide +kernel
theorem dX1_store_114 : decode cX1_store 114 = .ok (.lload 8, 2) := by decide +kernel
theorem dX1_store_116 : decode cX1_store 116 = .ok (.land, 1) := by decide +kernel
theorem dX1_store_117 : decode cX1_store 117 = .ok (.ladd, 1) := by decide +kernel
theorem dX1_store_118 : decode cX1_store 118 = .ok (.l2i, 1) := by decide +kernel
theorem dX1_store_119 : decode cX1_store 119 = .ok (.iastore, 1) := by decide +kernel
theorem dX1_store_120 : decode cX1_store 120 = .ok (.return_, 1) := by decide +kernel
theorem dX1_power_0 : decode cX1_power 0 = .ok (.iconst 1, 1) := by decide +kernel
theorem dX1_power_1 : decode cX1_power 1 = .ok (.iload_n 0, 1) := by decide +kernel
theorem dX1_power_2 : decode cX1_power 2 = .ok (.ishl, 1) := by decide +kernel
theorem dX1_power_3 : decode cX1_power 3 = .ok (.ireturn, 1) := by decide +kernel
theorem dX1_right_0 : decode cX1_right 0 = .ok (.iload_n 2, 1) := by decide +kernel
theorem dX1_right_1 : decode cX1_right 1 = .ok (.ifCond .eq 8, 3) := by decide +kernel
theorem dX1_right_4 : decode cX1_right 4 = .ok (.iload_n 0, 1) := by decide +kernel
theorem dX1_right_5 : decode cX1_right 5 = .ok (.i2l, 1) := by decide +kernel
theorem dX1_right_6 : decode cX1_right 6 = .ok (.goto 7, 3) := by decide +kernel
theorem dX1_right_9 : decode cX1_right 9 = .ok (.iload_n 0, 1) := by decide +kernel
theorem dX1_right_10 : decode cX1_right 10 = .ok (.invokestatic 36, 3) := by decide +kernel
theorem dX1_right_13 : decode cX1_right 13 = .ok (.lstore_n 3, 1) := by decide +kernel
theorem dX1_right_14 : decode cX1_right 14 = .ok (.lload_n 3, 1) := by decide +kernel
theorem dX1_right_15 : decode cX1_right 15 = .ok (.iload_n 1, 1) := by decide +kernel
theorem dX1_right_16 : decode cX1_right 16 = .ok (.lshr, 1) := by decide +kernel
theorem dX1_right_17 : decode cX1_right 17 = .ok (.l2i, 1) := by decide +kernel
theorem dX1_right_18 : decode cX1_right 18 = .ok (.ireturn, 1) := by decide +kernel
theorem dX1_simple_0 : decode cX1_simple 0 = .ok (.iload_n 0, 1) := by decide +kernel
theorem dX1_simple_1 : decode cX1_simple 1 = .ok (.tableswitch 84 0 6 #[43, 84, 47, 58, 76, 84, 80], 43) := by decide +kernel
theorem dX1_simple_44 : decode cX1_simple 44 = .ok (.iload_n 1, 1) := by decide +kernel
theorem dX1_simple_45 : decode cX1_simple 45 = .ok (.iload_n 2, 1) := by decide +kernel
theorem dX1_simple_46 : decode cX1_simple 46 = .ok (.iadd, 1) := by decide +kernel
theorem dX1_simple_47 : decode cX1_simple 47 = .ok (.ireturn, 1) := by decide +kernel
theorem dX1_simple_48 : decode cX1_simple 48 = .ok (.iload_n 1, 1) := by decide +kernel
theorem dX1_simple_49 : decode cX1_simple 49 = .ok (.iload_n 2, 1) := by decide +kernel
theorem dX1_simple_50 : decode cX1_simple 50 = .ok (.if_icmp .ge 7, 3) := by decide +kernel
theorem dX1_simple_53 : decode cX1_simple 53 = .ok (.iconst 1, 1) := by decide +kernel
theorem dX1_simple_54 : decode cX1_simple 54 = .ok (.goto 4, 3) := by decide +kernel
theorem dX1_simple_57 : decode cX1_simple 57 = .ok (.iconst 0, 1) := by decide +kernel
theorem dX1_simple_58 : decode cX1_simple 58 = .ok (.ireturn, 1) := by decide +kernel
theorem dX1_simple_59 : decode cX1_simple 59 = .ok (.iload_n 1, 1) := by decide +kernel
theorem dX1_simple_60 : decode cX1_simple 60 = .ok (.invokestatic 36, 3) := by decide +kernel
theorem dX1_simple_63 : decode cX1_simple 63 = .ok (.iload_n 2, 1) := by decide +kernel
theorem dX1_simple_64 : decode cX1_simple 64 = .ok (.invokestatic 36, 3) := by decide +kernel
theorem dX1_simple_67 : decode cX1_simple 67 = .ok (.lcmp, 1) := by decide +kernel
theorem dX1_simple_68 : decode cX1_simple 68 = .ok (.ifCond .ge 7, 3) := by decide +kernel
theorem dX1_simple_71 : decode cX1_simple 71 = .ok (.iconst 1, 1) := by decide +kernel
theorem dX1_simple_72 : decode cX1_simple 72 = .ok (.goto 4, 3) := by decide +kernel
theorem dX1_simple_75 : decode cX1_simple 75 = .ok (.iconst 0, 1) := by decide +kernel
theorem dX1_simple_76 : decode cX1_simple 76 = .ok (.ireturn, 1) := by decide +kernel
theorem dX1_simple_77 : decode cX1_simple 77 = .ok (.iload_n 1, 1) := by decide +kernel
theorem dX1_simple_78 : decode cX1_simple 78 = .ok (.iload_n 2, 1) := by decide +kernel
theorem dX1_simple_79 : decode cX1_simple 79 = .ok (.ixor, 1) := by decide +kernel
theorem dX1_simple_80 : decode cX1_simple 80 = .ok (.ireturn, 1) := by decide +kernel
theorem dX1_simple_81 : decode cX1_simple 81 = .ok (.iload_n 1, 1) := by decide +kernel
theorem dX1_simple_82 : decode cX1_simple 82 = .ok (.iload_n 2, 1) := by decide +kernel
theorem dX1_simple_83 : decode cX1_simple 83 = .ok (.ior, 1) := by decide +kernel
theorem dX1_simple_84 : decode cX1_simple 84 = .ok (.ireturn, 1) := by decide +kernel
theorem dX1_simple_85 : decode cX1_simple 85 = .ok (.iload_n 1, 1) := by decide +kernel
theorem dX1_simple_86 : decode cX1_simple 86 = .ok (.iload_n 2, 1) := by decide +kernel
theorem dX1_simple_87 : decode cX1_simple 87 = .ok (.iand, 1) := by decide +kernel
theorem dX1_simple_88 : decode cX1_simple 88 = .ok (.ireturn, 1) := by decide +kernel
theorem dX1_withNumber_0 : decode cX1_withNumber 0 = .ok (.iload_n 1, 1) := by decide +kernel
theorem dX1_withNumber_1 : decode cX1_withNumber 1 = .ok (.bipush 20, 2) := by decide +kernel
theorem dX1_withNumber_3 : decode cX1_withNumber 3 = .ok (.bipush 24, 2) := by decide +kernel
theorem dX1_withNumber_5 : decode cX1_withNumber 5 = .ok (.invokestatic 46, 3) := by decide +kernel
theorem dX1_withNumber_8 : decode cX1_withNumber 8 = .ok (.istore 6, 2) := by decide +kernel
theorem dX1_withNumber_10 : decode cX1_withNumber 10 = .ok (.iload_n 1, 1) := by decide +kernel
theorem dX1_withNumber_11 : decode cX1_withNumber 11 = .ok (.bipush 25, 2) := by decide +kernel
theorem dX1_withNumber_13 : decode cX1_withNumber 13 = .ok (.bipush 31, 2) := by decide +kernel
theorem dX1_withNumber_15 : decode cX1_withNumber 15 = .ok (.invokestatic 46, 3) := by decide +kernel
theorem dX1_withNumber_18 : decode cX1_withNumber 18 = .ok (.istore 7, 2) := by decide +kernel
theorem dX1_withNumber_20 : decode cX1_withNumber 20 = .ok (.iload_n 2, 1) := by decide +kernel
theorem dX1_withNumber_21 : decode cX1_withNumber 21 = .ok (.iconst 1, 1) := by decide +kernel
theorem dX1_withNumber_22 : decode cX1_withNumber 22 = .ok (.if_icmp .ne 24, 3) := by decide +kernel
theorem dX1_withNumber_25 : decode cX1_withNumber 25 = .ok (.iload 7, 2) := by decide +kernel
theorem dX1_withNumber_27 : decode cX1_withNumber 27 = .ok (.ifCond .ne 19, 3) := by decide +kernel
theorem dX1_withNumber_30 : decode cX1_withNumber 30 = .ok (.aload_n 0, 1) := by decide +kernel
theorem dX1_withNumber_31 : decode cX1_withNumber 31 = .ok (.iload_n 3, 1) := by decide +kernel
theorem dX1_withNumber_32 : decode cX1_withNumber 32 = .ok (.iload 4, 2) := by decide +kernel
theorem dX1_withNumber_34 : decode cX1_withNumber 34 = .ok (.iload 6, 2) := by decide +kernel
theorem dX1_withNumber_36 : decode cX1_withNumber 36 = .ok (.invokestatic 145, 3) := by decide +kernel
theorem dX1_withNumber_39 : decode cX1_withNumber 39 = .ok (.imul, 1) := by decide +kernel
theorem dX1_withNumber_40 : decode cX1_withNumber 40 = .ok (.invokevirtual 112, 3) := by decide +kernel
theorem dX1_withNumber_43 : decode cX1_withNumber 43 = .ok (.goto 79, 3) := by decide +kernel
theorem dX1_withNumber_46 : decode cX1_withNumber 46 = .ok (.iload_n 2, 1) := by decide +kernel
theorem dX1_withNumber_47 : decode cX1_withNumber 47 = .ok (.iconst 5, 1) := by decide +kernel
theorem dX1_withNumber_48 : decode cX1_withNumber 48 = .ok (.if_icmp .ne 42, 3) := by decide +kernel
theorem dX1_withNumber_51 : decode cX1_withNumber 51 = .ok (.iload 7, 2) := by decide +kernel
theorem dX1_withNumber_53 : decode cX1_withNumber 53 = .ok (.ifCond .eq 10, 3) := by decide +kernel
theorem dX1_withNumber_56 : decode cX1_withNumber 56 = .ok (.iload 7, 2) := by decide +kernel
theorem dX1_withNumber_58 : decode cX1_withNumber 58 = .ok (.bipush 32, 2) := by decide +kernel
theorem dX1_withNumber_60 : decode cX1_withNumber 60 = .ok (.if_icmp .ne 30, 3) := by decide +kernel
theorem dX1_withNumber_63 : decode cX1_withNumber 63 = .ok (.aload_n 0, 1) := by decide +kernel
theorem dX1_withNumber_64 : decode cX1_withNumber 64 = .ok (.iload_n 3, 1) := by decide +kernel
theorem dX1_withNumber_65 : decode cX1_withNumber 65 = .ok (.iload 4, 2) := by decide +kernel
theorem dX1_withNumber_67 : decode cX1_withNumber 67 = .ok (.iload 6, 2) := by decide +kernel
theorem dX1_withNumber_69 : decode cX1_withNumber 69 = .ok (.iload 7, 2) := by decide +kernel
theorem dX1_withNumber_71 : decode cX1_withNumber 71 = .ok (.bipush 32, 2) := by decide +kernel
theorem dX1_withNumber_73 : decode cX1_withNumber 73 = .ok (.if_icmp .ne 7, 3) := by decide +kernel
theorem dX1_withNumber_76 : decode cX1_withNumber 76 = .ok (.iconst 1, 1) := by decide +kernel
theorem dX1_withNumber_77 : decode cX1_withNumber 77 = .ok (.goto 4, 3) := by decide +kernel
theorem dX1_withNumber_80 : decode cX1_withNumber 80 = .ok (.iconst 0, 1) := by decide +kernel
theorem dX1_withNumber_81 : decode cX1_withNumber 81 = .ok (.invokestatic 148, 3) := by decide +kernel
theorem dX1_withNumber_84 : decode cX1_withNumber 84 = .ok (.invokevirtual 112, 3) := by decide +kernel
theorem dX1_withNumber_87 : decode cX1_withNumber 87 = .ok (.goto 35, 3) := by decide +kernel
theorem dX1_withNumber_90 : decode cX1_withNumber 90 = .ok (.iload_n 2, 1) := by decide +kernel
theorem dX1_withNumber_91 : decode cX1_withNumber 91 = .ok (.iconst 1, 1) := by decide +kernel
theorem dX1_withNumber_92 : decode cX1_withNumber 92 = .ok (.if_icmp .eq 8, 3) := by decide +kernel
theorem dX1_withNumber_95 : decode cX1_withNumber 95 = .ok (.iload_n 2, 1) := by decide +kernel
theorem dX1_withNumber_96 : decode cX1_withNumber 96 = .ok (.iconst 5, 1) := by decide +kernel
theorem dX1_withNumber_97 : decode cX1_withNumber 97 = .ok (.if_icmp .ne 12, 3) := by decide +kernel
theorem dX1_withNumber_100 : decode cX1_withNumber 100 = .ok (.aload_n 0, 1) := by decide +kernel
theorem dX1_withNumber_101 : decode cX1_withNumber 101 = .ok (.iconst 2, 1) := by decide +kernel
theorem dX1_withNumber_102 : decode cX1_withNumber 102 = .ok (.iload_n 1, 1) := by decide +kernel
theorem dX1_withNumber_103 : decode cX1_withNumber 103 = .ok (.invokevirtual 93, 3) := by decide +kernel
theorem dX1_withNumber_106 : decode cX1_withNumber 106 = .ok (.goto 16, 3) := by decide +kernel
theorem dX1_withNumber_109 : decode cX1_withNumber 109 = .ok (.aload_n 0, 1) := by decide +kernel
theorem dX1_withNumber_110 : decode cX1_withNumber 110 = .ok (.iload_n 3, 1) := by decide +kernel
theorem dX1_withNumber_111 : decode cX1_withNumber 111 = .ok (.iload_n 2, 1) := by decide +kernel
theorem dX1_withNumber_112 : decode cX1_withNumber 112 = .ok (.iload 4, 2) := by decide +kernel
theorem dX1_withNumber_114 : decode cX1_withNumber 114 = .ok (.iload 5, 2) := by decide +kernel
theorem dX1_withNumber_116 : decode cX1_withNumber 116 = .ok (.invokestatic 152, 3) := by decide +kernel
theorem dX1_withNumber_119 : decode cX1_withNumber 119 = .ok (.invokevirtual 112, 3) := by decide +kernel
theorem dX1_withNumber_122 : decode cX1_withNumber 122 = .ok (.return_, 1) := by decide +kernel
theorem dX1_withTwo_0 : decode cX1_withTwo 0 = .ok (.iload_n 1, 1) := by decide +kernel
theorem dX1_withTwo_1 : decode cX1_withTwo 1 = .ok (.bipush 25, 2) := by decide +kernel
theorem dX1_withTwo_3 : decode cX1_withTwo 3 = .ok (.bipush 31, 2) := by decide +kernel
theorem dX1_withTwo_5 : decode cX1_withTwo 5 = .ok (.invokestatic 46, 3) := by decide +kernel
theorem dX1_withTwo_8 : decode cX1_withTwo 8 = .ok (.istore 6, 2) := by decide +kernel
theorem dX1_withTwo_10 : decode cX1_withTwo 10 = .ok (.iload 5, 2) := by decide +kernel
theorem dX1_withTwo_12 : decode cX1_withTwo 12 = .ok (.iconst 0, 1) := by decide +kernel
theorem dX1_withTwo_13 : decode cX1_withTwo 13 = .ok (.iconst 4, 1) := by decide +kernel
theorem dX1_withTwo_14 : decode cX1_withTwo 14 = .ok (.invokestatic 46, 3) := by decide +kernel
theorem dX1_withTwo_17 : decode cX1_withTwo 17 = .ok (.istore 7, 2) := by decide +kernel
theorem dX1_withTwo_19 : decode cX1_withTwo 19 = .ok (.iload 6, 2) := by decide +kernel
theorem dX1_withTwo_21 : decode cX1_withTwo 21 = .ok (.iconst 1, 1) := by decide +kernel
theorem dX1_withTwo_22 : decode cX1_withTwo 22 = .ok (.if_icmp .ne 35, 3) := by decide +kernel
theorem dX1_withTwo_25 : decode cX1_withTwo 25 = .ok (.aload_n 0, 1) := by decide +kernel
theorem dX1_withTwo_26 : decode cX1_withTwo 26 = .ok (.iload_n 3, 1) := by decide +kernel
theorem dX1_withTwo_27 : decode cX1_withTwo 27 = .ok (.iload_n 2, 1) := by decide +kernel
theorem dX1_withTwo_28 : decode cX1_withTwo 28 = .ok (.iconst 4, 1) := by decide +kernel
theorem dX1_withTwo_29 : decode cX1_withTwo 29 = .ok (.if_icmp .ge 14, 3) := by decide +kernel
theorem dX1_withTwo_32 : decode cX1_withTwo 32 = .ok (.iload_n 2, 1) := by decide +kernel
theorem dX1_withTwo_33 : decode cX1_withTwo 33 = .ok (.iload 4, 2) := by decide +kernel
theorem dX1_withTwo_35 : decode cX1_withTwo 35 = .ok (.iload 5, 2) := by decide +kernel
theorem dX1_withTwo_37 : decode cX1_withTwo 37 = .ok (.invokestatic 155, 3) := by decide +kernel
theorem dX1_withTwo_40 : decode cX1_withTwo 40 = .ok (.goto 11, 3) := by decide +kernel
theorem dX1_withTwo_43 : decode cX1_withTwo 43 = .ok (.iload_n 2, 1) := by decide +kernel
theorem dX1_withTwo_44 : decode cX1_withTwo 44 = .ok (.iload 4, 2) := by decide +kernel
theorem dX1_withTwo_46 : decode cX1_withTwo 46 = .ok (.iload 5, 2) := by decide +kernel
theorem dX1_withTwo_48 : decode cX1_withTwo 48 = .ok (.invokestatic 158, 3) := by decide +kernel
theorem dX1_withTwo_51 : decode cX1_withTwo 51 = .ok (.invokevirtual 112, 3) := by decide +kernel
theorem dX1_withTwo_54 : decode cX1_withTwo 54 = .ok (.goto 106, 3) := by decide +kernel
theorem dX1_withTwo_57 : decode cX1_withTwo 57 = .ok (.iload 6, 2) := by decide +kernel
theorem dX1_withTwo_59 : decode cX1_withTwo 59 = .ok (.ifCond .ne 51, 3) := by decide +kernel
theorem dX1_withTwo_62 : decode cX1_withTwo 62 = .ok (.aload_n 0, 1) := by decide +kernel
theorem dX1_withTwo_63 : decode cX1_withTwo 63 = .ok (.iload_n 3, 1) := by decide +kernel
theorem dX1_withTwo_64 : decode cX1_withTwo 64 = .ok (.iload_n 2, 1) := by decide +kernel
theorem dX1_withTwo_65 : decode cX1_withTwo 65 = .ok (.iconst 1, 1) := by decide +kernel
theorem dX1_withTwo_66 : decode cX1_withTwo 66 = .ok (.if_icmp .ne 14, 3) := by decide +kernel
theorem dX1_withTwo_69 : decode cX1_withTwo 69 = .ok (.iload 4, 2) := by decide +kernel
theorem dX1_withTwo_71 : decode cX1_withTwo 71 = .ok (.iload 7, 2) := by decide +kernel
theorem dX1_withTwo_73 : decode cX1_withTwo 73 = .ok (.invokestatic 145, 3) := by decide +kernel
theorem dX1_withTwo_76 : decode cX1_withTwo 76 = .ok (.imul, 1) := by decide +kernel
theorem dX1_withTwo_77 : decode cX1_withTwo 77 = .ok (.goto 27, 3) := by decide +kernel
theorem dX1_withTwo_80 : decode cX1_withTwo 80 = .ok (.iload_n 2, 1) := by decide +kernel
theorem dX1_withTwo_81 : decode cX1_withTwo 81 = .ok (.iconst 5, 1) := by decide +kernel
theorem dX1_withTwo_82 : decode cX1_withTwo 82 = .ok (.if_icmp .ne 14, 3) := by decide +kernel
theorem dX1_withTwo_85 : decode cX1_withTwo 85 = .ok (.iload 4, 2) := by decide +kernel
theorem dX1_withTwo_87 : decode cX1_withTwo 87 = .ok (.iload 7, 2) := by decide +kernel
theorem dX1_withTwo_89 : decode cX1_withTwo 89 = .ok (.iconst 0, 1) := by decide +kernel
theorem dX1_withTwo_90 : decode cX1_withTwo 90 = .ok (.invokestatic 148, 3) := by decide +kernel
theorem dX1_withTwo_93 : decode cX1_withTwo 93 = .ok (.goto 11, 3) := by decide +kernel
theorem dX1_withTwo_96 : decode cX1_withTwo 96 = .ok (.iload_n 2, 1) := by decide +kernel
theorem dX1_withTwo_97 : decode cX1_withTwo 97 = .ok (.iload 4, 2) := by decide +kernel
theorem dX1_withTwo_99 : decode cX1_withTwo 99 = .ok (.iload 5, 2) := by decide +kernel
theorem dX1_withTwo_101 : decode cX1_withTwo 101 = .ok (.invokestatic 152, 3) := by decide +kernel
theorem dX1_withTwo_104 : decode cX1_withTwo 104 = .ok (.invokevirtual 112, 3) := by decide +kernel
theorem dX1_withTwo_107 : decode cX1_withTwo 107 = .ok (.goto 53, 3) := by decide +kernel
theorem dX1_withTwo_110 : decode cX1_withTwo 110 = .ok (.iload 6, 2) := by decide +kernel
theorem dX1_withTwo_112 : decode cX1_withTwo 112 = .ok (.bipush 32, 2) := by decide +kernel
theorem dX1_withTwo_114 : decode cX1_withTwo 114 = .ok (.if_icmp .ne 40, 3) := by decide +kernel
theorem dX1_withTwo_117 : decode cX1_withTwo 117 = .ok (.iload_n 2, 1) := by decide +kernel
theorem dX1_withTwo_118 : decode cX1_withTwo 118 = .ok (.ifCond .eq 8, 3) := by decide +kernel
theorem dX1_withTwo_121 : decode cX1_withTwo 121 = .ok (.iload_n 2, 1) := by decide +kernel
theorem dX1_withTwo_122 : decode cX1_withTwo 122 = .ok (.iconst 5, 1) := by decide +kernel
theorem dX1_withTwo_123 : decode cX1_withTwo 123 = .ok (.if_icmp .ne 31, 3) := by decide +kernel
theorem dX1_withTwo_126 : decode cX1_withTwo 126 = .ok (.aload_n 0, 1) := by decide +kernel
theorem dX1_withTwo_127 : decode cX1_withTwo 127 = .ok (.iload_n 3, 1) := by decide +kernel
theorem dX1_withTwo_128 : decode cX1_withTwo 128 = .ok (.iload_n 2, 1) := by decide +kernel
theorem dX1_withTwo_129 : decode cX1_withTwo 129 = .ok (.ifCond .ne 11, 3) := by decide +kernel
theorem dX1_withTwo_132 : decode cX1_withTwo 132 = .ok (.iload 4, 2) := by decide +kernel
theorem dX1_withTwo_134 : decode cX1_withTwo 134 = .ok (.iload 5, 2) := by decide +kernel
theorem dX1_withTwo_136 : decode cX1_withTwo 136 = .ok (.isub, 1) := by decide +kernel
theorem dX1_withTwo_137 : decode cX1_withTwo 137 = .ok (.goto 11, 3) := by decide +kernel
theorem dX1_withTwo_140 : decode cX1_withTwo 140 = .ok (.iload 4, 2) := by decide +kernel
theorem dX1_withTwo_142 : decode cX1_withTwo 142 = .ok (.iload 7, 2) := by decide +kernel
theorem dX1_withTwo_144 : decode cX1_withTwo 144 = .ok (.iconst 1, 1) := by decide +kernel
theorem dX1_withTwo_145 : decode cX1_withTwo 145 = .ok (.invokestatic 148, 3) := by decide +kernel
theorem dX1_withTwo_148 : decode cX1_withTwo 148 = .ok (.invokevirtual 112, 3) := by decide +kernel
theorem dX1_withTwo_151 : decode cX1_withTwo 151 = .ok (.goto 9, 3) := by decide +kernel
theorem dX1_withTwo_154 : decode cX1_withTwo 154 = .ok (.aload_n 0, 1) := by decide +kernel
theorem dX1_withTwo_155 : decode cX1_withTwo 155 = .ok (.iconst 2, 1) := by decide +kernel
theorem dX1_withTwo_156 : decode cX1_withTwo 156 = .ok (.iload_n 1, 1) := by decide +kernel
theorem dX1_withTwo_157 : decode cX1_withTwo 157 = .ok (.invokevirtual 93, 3) := by decide +kernel
theorem dX1_withTwo_160 : decode cX1_withTwo 160 = .ok (.return_, 1) := by decide +kernel
theorem dX1_product_0 : decode cX1_product 0 = .ok (.iload_n 0, 1) := by decide +kernel
theorem dX1_product_1 : decode cX1_product 1 = .ok (.ifCond .ne 7, 3) := by decide +kernel
theorem dX1_product_4 : decode cX1_product 4 = .ok (.iload_n 1, 1) := by decide +kernel
theorem dX1_product_5 : decode cX1_product 5 = .ok (.iload_n 2, 1) := by decide +kernel
theorem dX1_product_6 : decode cX1_product 6 = .ok (.imul, 1) := by decide +kernel
theorem dX1_product_7 : decode cX1_product 7 = .ok (.ireturn, 1) := by decide +kernel
theorem dX1_product_8 : decode cX1_product 8 = .ok (.iload_n 1, 1) := by decide +kernel
theorem dX1_product_9 : decode cX1_product 9 = .ok (.invokestatic 36, 3) := by decide +kernel
theorem dX1_product_12 : decode cX1_product 12 = .ok (.lstore_n 3, 1) := by decide +kernel
theorem dX1_product_13 : decode cX1_product 13 = .ok (.iload_n 2, 1) := by decide +kernel
theorem dX1_product_14 : decode cX1_product 14 = .ok (.invokestatic 36, 3) := by decide +kernel
theorem dX1_product_17 : decode cX1_product 17 = .ok (.lstore 5, 2) := by decide +kernel
theorem dX1_product_19 : decode cX1_product 19 = .ok (.lload_n 3, 1) := by decide +kernel
theorem dX1_product_20 : decode cX1_product 20 = .ok (.ldc2_w 161, 3) := by decide +kernel
theorem dX1_product_23 : decode cX1_product 23 = .ok (.land, 1) := by decide +kernel
theorem dX1_product_24 : decode cX1_product 24 = .ok (.lload 5, 2) := by decide +kernel
theorem dX1_product_26 : decode cX1_product 26 = .ok (.ldc2_w 161, 3) := by decide +kernel
theorem dX1_product_29 : decode cX1_product 29 = .ok (.land, 1) := by decide +kernel
theorem dX1_product_30 : decode cX1_product 30 = .ok (.lmul, 1) := by decide +kernel
theorem dX1_product_31 : decode cX1_product 31 = .ok (.lstore 7, 2) := by decide +kernel
theorem dX1_product_33 : decode cX1_product 33 = .ok (.lload_n 3, 1) := by decide +kernel
theorem dX1_product_34 : decode cX1_product 34 = .ok (.bipush 16, 2) := by decide +kernel
theorem dX1_product_36 : decode cX1_product 36 = .ok (.lshr, 1) := by decide +kernel
theorem dX1_product_37 : decode cX1_product 37 = .ok (.lload 5, 2) := by decide +kernel
theorem dX1_product_39 : decode cX1_product 39 = .ok (.ldc2_w 161, 3) := by decide +kernel
theorem dX1_product_42 : decode cX1_product 42 = .ok (.land, 1) := by decide +kernel
theorem dX1_product_43 : decode cX1_product 43 = .ok (.lmul, 1) := by decide +kernel
theorem dX1_product_44 : decode cX1_product 44 = .ok (.lload 7, 2) := by decide +kernel
theorem dX1_product_46 : decode cX1_product 46 = .ok (.bipush 16, 2) := by decide +kernel
theorem dX1_product_48 : decode cX1_product 48 = .ok (.lshr, 1) := by decide +kernel
theorem dX1_product_49 : decode cX1_product 49 = .ok (.ladd, 1) := by decide +kernel
theorem dX1_product_50 : decode cX1_product 50 = .ok (.lstore 9, 2) := by decide +kernel
theorem dX1_product_52 : decode cX1_product 52 = .ok (.lload_n 3, 1) := by decide +kernel
theorem dX1_product_53 : decode cX1_product 53 = .ok (.ldc2_w 161, 3) := by decide +kernel
theorem dX1_product_56 : decode cX1_product 56 = .ok (.land, 1) := by decide +kernel
theorem dX1_product_57 : decode cX1_product 57 = .ok (.lload 5, 2) := by decide +kernel
theorem dX1_product_59 : decode cX1_product 59 = .ok (.bipush 16, 2) := by decide +kernel
theorem dX1_product_61 : decode cX1_product 61 = .ok (.lshr, 1) := by decide +kernel
theorem dX1_product_62 : decode cX1_product 62 = .ok (.lmul, 1) := by decide +kernel
theorem dX1_product_63 : decode cX1_product 63 = .ok (.lload 9, 2) := by decide +kernel
theorem dX1_product_65 : decode cX1_product 65 = .ok (.ldc2_w 161, 3) := by decide +kernel
theorem dX1_product_68 : decode cX1_product 68 = .ok (.land, 1) := by decide +kernel
theorem dX1_product_69 : decode cX1_product 69 = .ok (.ladd, 1) := by decide +kernel
theorem dX1_product_70 : decode cX1_product 70 = .ok (.lstore 11, 2) := by decide +kernel
theorem dX1_product_72 : decode cX1_product 72 = .ok (.lload_n 3, 1) := by decide +kernel
theorem dX1_product_73 : decode cX1_product 73 = .ok (.bipush 16, 2) := by decide +kernel
theorem dX1_product_75 : decode cX1_product 75 = .ok (.lshr, 1) := by decide +kernel
theorem dX1_product_76 : decode cX1_product 76 = .ok (.lload 5, 2) := by decide +kernel
theorem dX1_product_78 : decode cX1_product 78 = .ok (.bipush 16, 2) := by decide +kernel
theorem dX1_product_80 : decode cX1_product 80 = .ok (.lshr, 1) := by decide +kernel
theorem dX1_product_81 : decode cX1_product 81 = .ok (.lmul, 1) := by decide +kernel
end
section
theorem dX1_product_82 : decode cX1_product 82 = .ok (.lload 9, 2) := by decide +kernel
theorem dX1_product_84 : decode cX1_product 84 = .ok (.bipush 16, 2) := by decide +kernel
theorem dX1_product_86 : decode cX1_product 86 = .ok (.lshr, 1) := by decide +kernel
theorem dX1_product_87 : decode cX1_product 87 = .ok (.ladd, 1) := by decide +kernel
theorem dX1_product_88 : decode cX1_product 88 = .ok (.lload 11, 2) := by decide +kernel
theorem dX1_product_90 : decode cX1_product 90 = .ok (.bipush 16, 2) := by decide +kernel
theorem dX1_product_92 : decode cX1_product 92 = .ok (.lshr, 1) := by decide +kernel
theorem dX1_product_93 : decode cX1_product 93 = .ok (.ladd, 1) := by decide +kernel
theorem dX1_product_94 : decode cX1_product 94 = .ok (.l2i, 1) := by decide +kernel
theorem dX1_product_95 : decode cX1_product 95 = .ok (.istore 13, 2) := by decide +kernel
theorem dX1_product_97 : decode cX1_product 97 = .ok (.iload_n 0, 1) := by decide +kernel
theorem dX1_product_98 : decode cX1_product 98 = .ok (.iconst 3, 1) := by decide +kernel
theorem dX1_product_99 : decode cX1_product 99 = .ok (.if_icmp .ge 14, 3) := by decide +kernel
theorem dX1_product_102 : decode cX1_product 102 = .ok (.iload_n 1, 1) := by decide +kernel
theorem dX1_product_103 : decode cX1_product 103 = .ok (.ifCond .ge 10, 3) := by decide +kernel
theorem dX1_product_106 : decode cX1_product 106 = .ok (.iload 13, 2) := by decide +kernel
theorem dX1_product_108 : decode cX1_product 108 = .ok (.iload_n 2, 1) := by decide +kernel
theorem dX1_product_109 : decode cX1_product 109 = .ok (.isub, 1) := by decide +kernel
theorem dX1_product_110 : decode cX1_product 110 = .ok (.goto 5, 3) := by decide +kernel
theorem dX1_product_113 : decode cX1_product 113 = .ok (.iload 13, 2) := by decide +kernel
theorem dX1_product_115 : decode cX1_product 115 = .ok (.istore 13, 2) := by decide +kernel
theorem dX1_product_117 : decode cX1_product 117 = .ok (.iload_n 0, 1) := by decide +kernel
theorem dX1_product_118 : decode cX1_product 118 = .ok (.iconst 1, 1) := by decide +kernel
theorem dX1_product_119 : decode cX1_product 119 = .ok (.if_icmp .ne 14, 3) := by decide +kernel
theorem dX1_product_122 : decode cX1_product 122 = .ok (.iload_n 2, 1) := by decide +kernel
theorem dX1_product_123 : decode cX1_product 123 = .ok (.ifCond .ge 10, 3) := by decide +kernel
theorem dX1_product_126 : decode cX1_product 126 = .ok (.iload 13, 2) := by decide +kernel
theorem dX1_product_128 : decode cX1_product 128 = .ok (.iload_n 1, 1) := by decide +kernel
theorem dX1_product_129 : decode cX1_product 129 = .ok (.isub, 1) := by decide +kernel
theorem dX1_product_130 : decode cX1_product 130 = .ok (.goto 5, 3) := by decide +kernel
theorem dX1_product_133 : decode cX1_product 133 = .ok (.iload 13, 2) := by decide +kernel
theorem dX1_product_135 : decode cX1_product 135 = .ok (.ireturn, 1) := by decide +kernel
theorem dX1_quotient_0 : decode cX1_quotient 0 = .ok (.iload_n 0, 1) := by decide +kernel
theorem dX1_quotient_1 : decode cX1_quotient 1 = .ok (.iconst 2, 1) := by decide +kernel
theorem dX1_quotient_2 : decode cX1_quotient 2 = .ok (.irem, 1) := by decide +kernel
theorem dX1_quotient_3 : decode cX1_quotient 3 = .ok (.ifCond .ne 7, 3) := by decide +kernel
theorem dX1_quotient_6 : decode cX1_quotient 6 = .ok (.iconst 1, 1) := by decide +kernel
theorem dX1_quotient_7 : decode cX1_quotient 7 = .ok (.goto 4, 3) := by decide +kernel
theorem dX1_quotient_10 : decode cX1_quotient 10 = .ok (.iconst 0, 1) := by decide +kernel
theorem dX1_quotient_11 : decode cX1_quotient 11 = .ok (.istore_n 3, 1) := by decide +kernel
theorem dX1_quotient_12 : decode cX1_quotient 12 = .ok (.iload_n 3, 1) := by decide +kernel
theorem dX1_quotient_13 : decode cX1_quotient 13 = .ok (.ifCond .eq 8, 3) := by decide +kernel
theorem dX1_quotient_16 : decode cX1_quotient 16 = .ok (.iload_n 1, 1) := by decide +kernel
theorem dX1_quotient_17 : decode cX1_quotient 17 = .ok (.i2l, 1) := by decide +kernel
theorem dX1_quotient_18 : decode cX1_quotient 18 = .ok (.goto 7, 3) := by decide +kernel
theorem dX1_quotient_21 : decode cX1_quotient 21 = .ok (.iload_n 1, 1) := by decide +kernel
theorem dX1_quotient_22 : decode cX1_quotient 22 = .ok (.invokestatic 36, 3) := by decide +kernel
theorem dX1_quotient_25 : decode cX1_quotient 25 = .ok (.lstore 4, 2) := by decide +kernel
theorem dX1_quotient_27 : decode cX1_quotient 27 = .ok (.iload_n 3, 1) := by decide +kernel
theorem dX1_quotient_28 : decode cX1_quotient 28 = .ok (.ifCond .eq 8, 3) := by decide +kernel
theorem dX1_quotient_31 : decode cX1_quotient 31 = .ok (.iload_n 2, 1) := by decide +kernel
theorem dX1_quotient_32 : decode cX1_quotient 32 = .ok (.i2l, 1) := by decide +kernel
theorem dX1_quotient_33 : decode cX1_quotient 33 = .ok (.goto 7, 3) := by decide +kernel
theorem dX1_quotient_36 : decode cX1_quotient 36 = .ok (.iload_n 2, 1) := by decide +kernel
theorem dX1_quotient_37 : decode cX1_quotient 37 = .ok (.invokestatic 36, 3) := by decide +kernel
theorem dX1_quotient_40 : decode cX1_quotient 40 = .ok (.lstore 6, 2) := by decide +kernel
theorem dX1_quotient_42 : decode cX1_quotient 42 = .ok (.lload 6, 2) := by decide +kernel
theorem dX1_quotient_44 : decode cX1_quotient 44 = .ok (.lconst 0, 1) := by decide +kernel
theorem dX1_quotient_45 : decode cX1_quotient 45 = .ok (.lcmp, 1) := by decide +kernel
theorem dX1_quotient_46 : decode cX1_quotient 46 = .ok (.ifCond .ne 15, 3) := by decide +kernel
theorem dX1_quotient_49 : decode cX1_quotient 49 = .ok (.iload_n 0, 1) := by decide +kernel
theorem dX1_quotient_50 : decode cX1_quotient 50 = .ok (.bipush 6, 2) := by decide +kernel
theorem dX1_quotient_52 : decode cX1_quotient 52 = .ok (.if_icmp .ge 7, 3) := by decide +kernel
theorem dX1_quotient_55 : decode cX1_quotient 55 = .ok (.iconst (-1), 1) := by decide +kernel
theorem dX1_quotient_56 : decode cX1_quotient 56 = .ok (.goto 4, 3) := by decide +kernel
theorem dX1_quotient_59 : decode cX1_quotient 59 = .ok (.iload_n 1, 1) := by decide +kernel
theorem dX1_quotient_60 : decode cX1_quotient 60 = .ok (.ireturn, 1) := by decide +kernel
theorem dX1_quotient_61 : decode cX1_quotient 61 = .ok (.iload_n 0, 1) := by decide +kernel
theorem dX1_quotient_62 : decode cX1_quotient 62 = .ok (.bipush 6, 2) := by decide +kernel
theorem dX1_quotient_64 : decode cX1_quotient 64 = .ok (.if_icmp .ge 11, 3) := by decide +kernel
theorem dX1_quotient_67 : decode cX1_quotient 67 = .ok (.lload 4, 2) := by decide +kernel
theorem dX1_quotient_69 : decode cX1_quotient 69 = .ok (.lload 6, 2) := by decide +kernel
theorem dX1_quotient_71 : decode cX1_quotient 71 = .ok (.ldiv, 1) := by decide +kernel
theorem dX1_quotient_72 : decode cX1_quotient 72 = .ok (.goto 8, 3) := by decide +kernel
theorem dX1_quotient_75 : decode cX1_quotient 75 = .ok (.lload 4, 2) := by decide +kernel
theorem dX1_quotient_77 : decode cX1_quotient 77 = .ok (.lload 6, 2) := by decide +kernel
theorem dX1_quotient_79 : decode cX1_quotient 79 = .ok (.lrem, 1) := by decide +kernel
theorem dX1_quotient_80 : decode cX1_quotient 80 = .ok (.l2i, 1) := by decide +kernel
theorem dX1_quotient_81 : decode cX1_quotient 81 = .ok (.ireturn, 1) := by decide +kernel
theorem dX1_system_0 : decode cX1_system 0 = .ok (.iload_n 1, 1) := by decide +kernel
theorem dX1_system_1 : decode cX1_system 1 = .ok (.bipush 115, 2) := by decide +kernel
theorem dX1_system_3 : decode cX1_system 3 = .ok (.if_icmp .ne 28, 3) := by decide +kernel
theorem dX1_system_6 : decode cX1_system 6 = .ok (.aload_n 0, 1) := by decide +kernel
theorem dX1_system_7 : decode cX1_system 7 = .ok (.getfield 17, 3) := by decide +kernel
theorem dX1_system_10 : decode cX1_system 10 = .ok (.ifCond .ne 13, 3) := by decide +kernel
theorem dX1_system_13 : decode cX1_system 13 = .ok (.aload_n 0, 1) := by decide +kernel
theorem dX1_system_14 : decode cX1_system 14 = .ok (.bipush 8, 2) := by decide +kernel
theorem dX1_system_16 : decode cX1_system 16 = .ok (.iconst 0, 1) := by decide +kernel
theorem dX1_system_17 : decode cX1_system 17 = .ok (.invokevirtual 93, 3) := by decide +kernel
theorem dX1_system_20 : decode cX1_system 20 = .ok (.goto 150, 3) := by decide +kernel
theorem dX1_system_23 : decode cX1_system 23 = .ok (.aload_n 0, 1) := by decide +kernel
theorem dX1_system_24 : decode cX1_system 24 = .ok (.iconst 1, 1) := by decide +kernel
theorem dX1_system_25 : decode cX1_system 25 = .ok (.putfield 27, 3) := by decide +kernel
theorem dX1_system_28 : decode cX1_system 28 = .ok (.goto 142, 3) := by decide +kernel
theorem dX1_system_31 : decode cX1_system 31 = .ok (.iload_n 1, 1) := by decide +kernel
theorem dX1_system_32 : decode cX1_system 32 = .ok (.ldc 163, 2) := by decide +kernel
theorem dX1_system_34 : decode cX1_system 34 = .ok (.if_icmp .ne 15, 3) := by decide +kernel
theorem dX1_system_37 : decode cX1_system 37 = .ok (.aload_n 0, 1) := by decide +kernel
theorem dX1_system_38 : decode cX1_system 38 = .ok (.iconst 3, 1) := by decide +kernel
theorem dX1_system_39 : decode cX1_system 39 = .ok (.aload_n 0, 1) := by decide +kernel
theorem dX1_system_40 : decode cX1_system 40 = .ok (.getfield 75, 3) := by decide +kernel
theorem dX1_system_43 : decode cX1_system 43 = .ok (.invokevirtual 93, 3) := by decide +kernel
theorem dX1_system_46 : decode cX1_system 46 = .ok (.goto 124, 3) := by decide +kernel
theorem dX1_system_49 : decode cX1_system 49 = .ok (.aload_n 0, 1) := by decide +kernel
theorem dX1_system_50 : decode cX1_system 50 = .ok (.getfield 17, 3) := by decide +kernel
theorem dX1_system_53 : decode cX1_system 53 = .ok (.ifCond .ne 12, 3) := by decide +kernel
theorem dX1_system_56 : decode cX1_system 56 = .ok (.aload_n 0, 1) := by decide +kernel
theorem dX1_system_57 : decode cX1_system 57 = .ok (.iconst 2, 1) := by decide +kernel
theorem dX1_system_58 : decode cX1_system 58 = .ok (.iload_n 1, 1) := by decide +kernel
theorem dX1_system_59 : decode cX1_system 59 = .ok (.invokevirtual 93, 3) := by decide +kernel
theorem dX1_system_62 : decode cX1_system 62 = .ok (.goto 108, 3) := by decide +kernel
theorem dX1_system_65 : decode cX1_system 65 = .ok (.iload_n 1, 1) := by decide +kernel
theorem dX1_system_66 : decode cX1_system 66 = .ok (.ldc 164, 2) := by decide +kernel
theorem dX1_system_68 : decode cX1_system 68 = .ok (.if_icmp .ne 45, 3) := by decide +kernel
theorem dX1_system_71 : decode cX1_system 71 = .ok (.aload_n 0, 1) := by decide +kernel
theorem dX1_system_72 : decode cX1_system 72 = .ok (.aload_n 0, 1) := by decide +kernel
theorem dX1_system_73 : decode cX1_system 73 = .ok (.getfield 78, 3) := by decide +kernel
theorem dX1_system_76 : decode cX1_system 76 = .ok (.putfield 105, 3) := by decide +kernel
theorem dX1_system_79 : decode cX1_system 79 = .ok (.aload_n 0, 1) := by decide +kernel
theorem dX1_system_80 : decode cX1_system 80 = .ok (.aload_n 0, 1) := by decide +kernel
theorem dX1_system_81 : decode cX1_system 81 = .ok (.getfield 50, 3) := by decide +kernel
theorem dX1_system_84 : decode cX1_system 84 = .ok (.sipush 256, 3) := by decide +kernel
theorem dX1_system_87 : decode cX1_system 87 = .ok (.iand, 1) := by decide +kernel
theorem dX1_system_88 : decode cX1_system 88 = .ok (.ifCond .eq 7, 3) := by decide +kernel
theorem dX1_system_91 : decode cX1_system 91 = .ok (.iconst 1, 1) := by decide +kernel
theorem dX1_system_92 : decode cX1_system 92 = .ok (.goto 4, 3) := by decide +kernel
theorem dX1_system_95 : decode cX1_system 95 = .ok (.iconst 0, 1) := by decide +kernel
theorem dX1_system_96 : decode cX1_system 96 = .ok (.putfield 17, 3) := by decide +kernel
theorem dX1_system_99 : decode cX1_system 99 = .ok (.aload_n 0, 1) := by decide +kernel
theorem dX1_system_100 : decode cX1_system 100 = .ok (.aload_n 0, 1) := by decide +kernel
theorem dX1_system_101 : decode cX1_system 101 = .ok (.getfield 50, 3) := by decide +kernel
theorem dX1_system_104 : decode cX1_system 104 = .ok (.ldc 53, 2) := by decide +kernel
theorem dX1_system_106 : decode cX1_system 106 = .ok (.iand, 1) := by decide +kernel
theorem dX1_system_107 : decode cX1_system 107 = .ok (.putfield 50, 3) := by decide +kernel
theorem dX1_system_110 : decode cX1_system 110 = .ok (.goto 60, 3) := by decide +kernel
theorem dX1_system_113 : decode cX1_system 113 = .ok (.iload_n 2, 1) := by decide +kernel
theorem dX1_system_114 : decode cX1_system 114 = .ok (.ifCond .ne 47, 3) := by decide +kernel
theorem dX1_system_117 : decode cX1_system 117 = .ok (.iload_n 1, 1) := by decide +kernel
theorem dX1_system_118 : decode cX1_system 118 = .ok (.ldc 165, 2) := by decide +kernel
theorem dX1_system_120 : decode cX1_system 120 = .ok (.if_icmp .eq 20, 3) := by decide +kernel
theorem dX1_system_123 : decode cX1_system 123 = .ok (.iload_n 1, 1) := by decide +kernel
theorem dX1_system_124 : decode cX1_system 124 = .ok (.bipush 25, 2) := by decide +kernel
theorem dX1_system_126 : decode cX1_system 126 = .ok (.bipush 31, 2) := by decide +kernel
theorem dX1_system_128 : decode cX1_system 128 = .ok (.invokestatic 46, 3) := by decide +kernel
theorem dX1_system_131 : decode cX1_system 131 = .ok (.bipush 9, 2) := by decide +kernel
theorem dX1_system_133 : decode cX1_system 133 = .ok (.if_icmp .ne 11, 3) := by decide +kernel
theorem dX1_system_136 : decode cX1_system 136 = .ok (.iload_n 3, 1) := by decide +kernel
theorem dX1_system_137 : decode cX1_system 137 = .ok (.ifCond .ne 7, 3) := by decide +kernel
theorem dX1_system_140 : decode cX1_system 140 = .ok (.iconst 1, 1) := by decide +kernel
theorem dX1_system_141 : decode cX1_system 141 = .ok (.goto 4, 3) := by decide +kernel
theorem dX1_system_144 : decode cX1_system 144 = .ok (.iconst 0, 1) := by decide +kernel
theorem dX1_system_145 : decode cX1_system 145 = .ok (.istore 5, 2) := by decide +kernel
theorem dX1_system_147 : decode cX1_system 147 = .ok (.iload 5, 2) := by decide +kernel
theorem dX1_system_149 : decode cX1_system 149 = .ok (.ifCond .ne 9, 3) := by decide +kernel
theorem dX1_system_152 : decode cX1_system 152 = .ok (.aload_n 0, 1) := by decide +kernel
theorem dX1_system_153 : decode cX1_system 153 = .ok (.iconst 2, 1) := by decide +kernel
theorem dX1_system_154 : decode cX1_system 154 = .ok (.iload_n 1, 1) := by decide +kernel
theorem dX1_system_155 : decode cX1_system 155 = .ok (.invokevirtual 93, 3) := by decide +kernel
theorem dX1_system_158 : decode cX1_system 158 = .ok (.goto 12, 3) := by decide +kernel
theorem dX1_system_161 : decode cX1_system 161 = .ok (.aload_n 0, 1) := by decide +kernel
theorem dX1_system_162 : decode cX1_system 162 = .ok (.iload_n 1, 1) := by decide +kernel
theorem dX1_system_163 : decode cX1_system 163 = .ok (.iload_n 2, 1) := by decide +kernel
theorem dX1_system_164 : decode cX1_system 164 = .ok (.iload_n 3, 1) := by decide +kernel
theorem dX1_system_165 : decode cX1_system 165 = .ok (.iload 4, 2) := by decide +kernel
theorem dX1_system_167 : decode cX1_system 167 = .ok (.invokevirtual 166, 3) := by decide +kernel
theorem dX1_system_170 : decode cX1_system 170 = .ok (.return_, 1) := by decide +kernel
theorem dX1_exchange_0 : decode cX1_exchange 0 = .ok (.iload_n 1, 1) := by decide +kernel
theorem dX1_exchange_1 : decode cX1_exchange 1 = .ok (.bipush 20, 2) := by decide +kernel
theorem dX1_exchange_3 : decode cX1_exchange 3 = .ok (.bipush 31, 2) := by decide +kernel
theorem dX1_exchange_5 : decode cX1_exchange 5 = .ok (.invokestatic 46, 3) := by decide +kernel
theorem dX1_exchange_8 : decode cX1_exchange 8 = .ok (.istore 5, 2) := by decide +kernel
theorem dX1_exchange_10 : decode cX1_exchange 10 = .ok (.iload_n 2, 1) := by decide +kernel
theorem dX1_exchange_11 : decode cX1_exchange 11 = .ok (.iconst 4, 1) := by decide +kernel
theorem dX1_exchange_12 : decode cX1_exchange 12 = .ok (.if_icmp .eq 11, 3) := by decide +kernel
theorem dX1_exchange_15 : decode cX1_exchange 15 = .ok (.iload 5, 2) := by decide +kernel
theorem dX1_exchange_17 : decode cX1_exchange 17 = .ok (.invokestatic 169, 3) := by decide +kernel
theorem dX1_exchange_20 : decode cX1_exchange 20 = .ok (.ifCond .ne 10, 3) := by decide +kernel
theorem dX1_exchange_23 : decode cX1_exchange 23 = .ok (.aload_n 0, 1) := by decide +kernel
theorem dX1_exchange_24 : decode cX1_exchange 24 = .ok (.iconst 2, 1) := by decide +kernel
theorem dX1_exchange_25 : decode cX1_exchange 25 = .ok (.iload_n 1, 1) := by decide +kernel
theorem dX1_exchange_26 : decode cX1_exchange 26 = .ok (.invokevirtual 93, 3) := by decide +kernel
theorem dX1_exchange_29 : decode cX1_exchange 29 = .ok (.return_, 1) := by decide +kernel
theorem dX1_exchange_30 : decode cX1_exchange 30 = .ok (.iload_n 1, 1) := by decide +kernel
theorem dX1_exchange_31 : decode cX1_exchange 31 = .ok (.bipush 15, 2) := by decide +kernel
theorem dX1_exchange_33 : decode cX1_exchange 33 = .ok (.bipush 19, 2) := by decide +kernel
theorem dX1_exchange_35 : decode cX1_exchange 35 = .ok (.invokestatic 46, 3) := by decide +kernel
theorem dX1_exchange_38 : decode cX1_exchange 38 = .ok (.istore 6, 2) := by decide +kernel
theorem dX1_exchange_40 : decode cX1_exchange 40 = .ok (.iload_n 2, 1) := by decide +kernel
theorem dX1_exchange_41 : decode cX1_exchange 41 = .ok (.iconst 4, 1) := by decide +kernel
theorem dX1_exchange_42 : decode cX1_exchange 42 = .ok (.if_icmp .le 8, 3) := by decide +kernel
theorem dX1_exchange_45 : decode cX1_exchange 45 = .ok (.iload 6, 2) := by decide +kernel
theorem dX1_exchange_47 : decode cX1_exchange 47 = .ok (.goto 5, 3) := by decide +kernel
theorem dX1_exchange_50 : decode cX1_exchange 50 = .ok (.iload 4, 2) := by decide +kernel
theorem dX1_exchange_52 : decode cX1_exchange 52 = .ok (.istore 7, 2) := by decide +kernel
theorem dX1_exchange_54 : decode cX1_exchange 54 = .ok (.aload_n 0, 1) := by decide +kernel
theorem dX1_exchange_55 : decode cX1_exchange 55 = .ok (.iload 5, 2) := by decide +kernel
theorem dX1_exchange_57 : decode cX1_exchange 57 = .ok (.invokevirtual 172, 3) := by decide +kernel
theorem dX1_exchange_60 : decode cX1_exchange 60 = .ok (.istore 8, 2) := by decide +kernel
theorem dX1_exchange_62 : decode cX1_exchange 62 = .ok (.iload_n 2, 1) := by decide +kernel
theorem dX1_exchange_63 : decode cX1_exchange 63 = .ok (.iconst 4, 1) := by decide +kernel
theorem dX1_exchange_64 : decode cX1_exchange 64 = .ok (.irem, 1) := by decide +kernel
theorem dX1_exchange_65 : decode cX1_exchange 65 = .ok (.istore 9, 2) := by decide +kernel
theorem dX1_exchange_67 : decode cX1_exchange 67 = .ok (.iload 9, 2) := by decide +kernel
theorem dX1_exchange_69 : decode cX1_exchange 69 = .ok (.iconst 1, 1) := by decide +kernel
theorem dX1_exchange_70 : decode cX1_exchange 70 = .ok (.if_icmp .ne 14, 3) := by decide +kernel
theorem dX1_exchange_73 : decode cX1_exchange 73 = .ok (.aload_n 0, 1) := by decide +kernel
theorem dX1_exchange_74 : decode cX1_exchange 74 = .ok (.iload 5, 2) := by decide +kernel
theorem dX1_exchange_76 : decode cX1_exchange 76 = .ok (.iload 7, 2) := by decide +kernel
theorem dX1_exchange_78 : decode cX1_exchange 78 = .ok (.invokevirtual 175, 3) := by decide +kernel
theorem dX1_exchange_81 : decode cX1_exchange 81 = .ok (.goto 35, 3) := by decide +kernel
theorem dX1_exchange_84 : decode cX1_exchange 84 = .ok (.iload 6, 2) := by decide +kernel
theorem dX1_exchange_86 : decode cX1_exchange 86 = .ok (.ifCond .eq 30, 3) := by decide +kernel
theorem dX1_exchange_89 : decode cX1_exchange 89 = .ok (.aload_n 0, 1) := by decide +kernel
theorem dX1_exchange_90 : decode cX1_exchange 90 = .ok (.iload 5, 2) := by decide +kernel
theorem dX1_exchange_92 : decode cX1_exchange 92 = .ok (.iload 9, 2) := by decide +kernel
theorem dX1_exchange_94 : decode cX1_exchange 94 = .ok (.iconst 2, 1) := by decide +kernel
theorem dX1_exchange_95 : decode cX1_exchange 95 = .ok (.if_icmp .ne 11, 3) := by decide +kernel
theorem dX1_exchange_98 : decode cX1_exchange 98 = .ok (.iload 8, 2) := by decide +kernel
theorem dX1_exchange_100 : decode cX1_exchange 100 = .ok (.iload 7, 2) := by decide +kernel
theorem dX1_exchange_102 : decode cX1_exchange 102 = .ok (.ior, 1) := by decide +kernel
theorem dX1_exchange_103 : decode cX1_exchange 103 = .ok (.goto 10, 3) := by decide +kernel
theorem dX1_exchange_106 : decode cX1_exchange 106 = .ok (.iload 8, 2) := by decide +kernel
theorem dX1_exchange_108 : decode cX1_exchange 108 = .ok (.iload 7, 2) := by decide +kernel
theorem dX1_exchange_110 : decode cX1_exchange 110 = .ok (.iconst (-1), 1) := by decide +kernel
theorem dX1_exchange_111 : decode cX1_exchange 111 = .ok (.ixor, 1) := by decide +kernel
theorem dX1_exchange_112 : decode cX1_exchange 112 = .ok (.iand, 1) := by decide +kernel
theorem dX1_exchange_113 : decode cX1_exchange 113 = .ok (.invokevirtual 175, 3) := by decide +kernel
theorem dX1_exchange_116 : decode cX1_exchange 116 = .ok (.aload_n 0, 1) := by decide +kernel
theorem dX1_exchange_117 : decode cX1_exchange 117 = .ok (.iload_n 3, 1) := by decide +kernel
theorem dX1_exchange_118 : decode cX1_exchange 118 = .ok (.iload 8, 2) := by decide +kernel
theorem dX1_exchange_120 : decode cX1_exchange 120 = .ok (.invokevirtual 112, 3) := by decide +kernel
theorem dX1_exchange_123 : decode cX1_exchange 123 = .ok (.return_, 1) := by decide +kernel
theorem dX1_isControl_0 : decode cX1_isControl 0 = .ok (.iload_n 0, 1) := by decide +kernel
theorem dX1_isControl_1 : decode cX1_isControl 1 = .ok (.sipush 256, 3) := by decide +kernel
theorem dX1_isControl_4 : decode cX1_isControl 4 = .ok (.if_icmp .eq 45, 3) := by decide +kernel
theorem dX1_isControl_7 : decode cX1_isControl 7 = .ok (.iload_n 0, 1) := by decide +kernel
theorem dX1_isControl_8 : decode cX1_isControl 8 = .ok (.sipush 261, 3) := by decide +kernel
theorem dX1_isControl_11 : decode cX1_isControl 11 = .ok (.if_icmp .eq 38, 3) := by decide +kernel
theorem dX1_isControl_14 : decode cX1_isControl 14 = .ok (.iload_n 0, 1) := by decide +kernel
theorem dX1_isControl_15 : decode cX1_isControl 15 = .ok (.sipush 320, 3) := by decide +kernel
theorem dX1_isControl_18 : decode cX1_isControl 18 = .ok (.if_icmp .lt 10, 3) := by decide +kernel
theorem dX1_isControl_21 : decode cX1_isControl 21 = .ok (.iload_n 0, 1) := by decide +kernel
theorem dX1_isControl_22 : decode cX1_isControl 22 = .ok (.sipush 323, 3) := by decide +kernel
theorem dX1_isControl_25 : decode cX1_isControl 25 = .ok (.if_icmp .le 24, 3) := by decide +kernel
theorem dX1_isControl_28 : decode cX1_isControl 28 = .ok (.iload_n 0, 1) := by decide +kernel
theorem dX1_isControl_29 : decode cX1_isControl 29 = .ok (.sipush 384, 3) := by decide +kernel
theorem dX1_isControl_32 : decode cX1_isControl 32 = .ok (.if_icmp .eq 17, 3) := by decide +kernel
theorem dX1_isControl_35 : decode cX1_isControl 35 = .ok (.iload_n 0, 1) := by decide +kernel
theorem dX1_isControl_36 : decode cX1_isControl 36 = .ok (.sipush 1472, 3) := by decide +kernel
theorem dX1_isControl_39 : decode cX1_isControl 39 = .ok (.if_icmp .eq 10, 3) := by decide +kernel
theorem dX1_isControl_42 : decode cX1_isControl 42 = .ok (.iload_n 0, 1) := by decide +kernel
theorem dX1_isControl_43 : decode cX1_isControl 43 = .ok (.sipush 1473, 3) := by decide +kernel
theorem dX1_isControl_46 : decode cX1_isControl 46 = .ok (.if_icmp .ne 7, 3) := by decide +kernel
theorem dX1_isControl_49 : decode cX1_isControl 49 = .ok (.iconst 1, 1) := by decide +kernel
theorem dX1_isControl_50 : decode cX1_isControl 50 = .ok (.goto 4, 3) := by decide +kernel
theorem dX1_isControl_53 : decode cX1_isControl 53 = .ok (.iconst 0, 1) := by decide +kernel
theorem dX1_isControl_54 : decode cX1_isControl 54 = .ok (.ireturn, 1) := by decide +kernel
theorem dX1_controlOf_0 : decode cX1_controlOf 0 = .ok (.iload_n 1, 1) := by decide +kernel
theorem dX1_controlOf_1 : decode cX1_controlOf 1 = .ok (.lookupswitch 115 #[(256, 75), (261, 80), (320, 85), (321, 90), (322, 95), (323, 100), (384, 105), (1472, 110)], 75) := by decide +kernel
theorem dX1_controlOf_76 : decode cX1_controlOf 76 = .ok (.aload_n 0, 1) := by decide +kernel
theorem dX1_controlOf_77 : decode cX1_controlOf 77 = .ok (.getfield 50, 3) := by decide +kernel
theorem dX1_controlOf_80 : decode cX1_controlOf 80 = .ok (.ireturn, 1) := by decide +kernel
theorem dX1_controlOf_81 : decode cX1_controlOf 81 = .ok (.aload_n 0, 1) := by decide +kernel
theorem dX1_controlOf_82 : decode cX1_controlOf 82 = .ok (.getfield 87, 3) := by decide +kernel
theorem dX1_controlOf_85 : decode cX1_controlOf 85 = .ok (.ireturn, 1) := by decide +kernel
theorem dX1_controlOf_86 : decode cX1_controlOf 86 = .ok (.aload_n 0, 1) := by decide +kernel
theorem dX1_controlOf_87 : decode cX1_controlOf 87 = .ok (.getfield 178, 3) := by decide +kernel
theorem dX1_controlOf_90 : decode cX1_controlOf 90 = .ok (.ireturn, 1) := by decide +kernel
theorem dX1_controlOf_91 : decode cX1_controlOf 91 = .ok (.aload_n 0, 1) := by decide +kernel
theorem dX1_controlOf_92 : decode cX1_controlOf 92 = .ok (.getfield 78, 3) := by decide +kernel
theorem dX1_controlOf_95 : decode cX1_controlOf 95 = .ok (.ireturn, 1) := by decide +kernel
theorem dX1_controlOf_96 : decode cX1_controlOf 96 = .ok (.aload_n 0, 1) := by decide +kernel
theorem dX1_controlOf_97 : decode cX1_controlOf 97 = .ok (.getfield 81, 3) := by decide +kernel
theorem dX1_controlOf_100 : decode cX1_controlOf 100 = .ok (.ireturn, 1) := by decide +kernel
theorem dX1_controlOf_101 : decode cX1_controlOf 101 = .ok (.aload_n 0, 1) := by decide +kernel
theorem dX1_controlOf_102 : decode cX1_controlOf 102 = .ok (.getfield 84, 3) := by decide +kernel
theorem dX1_controlOf_105 : decode cX1_controlOf 105 = .ok (.ireturn, 1) := by decide +kernel
theorem dX1_controlOf_106 : decode cX1_controlOf 106 = .ok (.aload_n 0, 1) := by decide +kernel
theorem dX1_controlOf_107 : decode cX1_controlOf 107 = .ok (.getfield 57, 3) := by decide +kernel
theorem dX1_controlOf_110 : decode cX1_controlOf 110 = .ok (.ireturn, 1) := by decide +kernel
theorem dX1_controlOf_111 : decode cX1_controlOf 111 = .ok (.aload_n 0, 1) := by decide +kernel
theorem dX1_controlOf_112 : decode cX1_controlOf 112 = .ok (.getfield 21, 3) := by decide +kernel
theorem dX1_controlOf_115 : decode cX1_controlOf 115 = .ok (.ireturn, 1) := by decide +kernel
theorem dX1_controlOf_116 : decode cX1_controlOf 116 = .ok (.aload_n 0, 1) := by decide +kernel
theorem dX1_controlOf_117 : decode cX1_controlOf 117 = .ok (.getfield 24, 3) := by decide +kernel
theorem dX1_controlOf_120 : decode cX1_controlOf 120 = .ok (.ireturn, 1) := by decide +kernel
theorem dX1_putControl_0 : decode cX1_putControl 0 = .ok (.iload_n 1, 1) := by decide +kernel
theorem dX1_putControl_1 : decode cX1_putControl 1 = .ok (.lookupswitch 156 #[(256, 75), (261, 86), (320, 101), (321, 109), (322, 124), (323, 132), (384, 140), (1472, 148)], 75) := by decide +kernel
theorem dX1_putControl_76 : decode cX1_putControl 76 = .ok (.aload_n 0, 1) := by decide +kernel
theorem dX1_putControl_77 : decode cX1_putControl 77 = .ok (.iload_n 2, 1) := by decide +kernel
theorem dX1_putControl_78 : decode cX1_putControl 78 = .ok (.ldc 181, 2) := by decide +kernel
theorem dX1_putControl_80 : decode cX1_putControl 80 = .ok (.iand, 1) := by decide +kernel
theorem dX1_putControl_81 : decode cX1_putControl 81 = .ok (.putfield 50, 3) := by decide +kernel
theorem dX1_putControl_84 : decode cX1_putControl 84 = .ok (.goto 78, 3) := by decide +kernel
theorem dX1_putControl_87 : decode cX1_putControl 87 = .ok (.aload_n 0, 1) := by decide +kernel
theorem dX1_putControl_88 : decode cX1_putControl 88 = .ok (.iload_n 2, 1) := by decide +kernel
theorem dX1_putControl_89 : decode cX1_putControl 89 = .ok (.iload_n 2, 1) := by decide +kernel
theorem dX1_putControl_90 : decode cX1_putControl 90 = .ok (.iconst 0, 1) := by decide +kernel
theorem dX1_putControl_91 : decode cX1_putControl 91 = .ok (.iconst 1, 1) := by decide +kernel
theorem dX1_putControl_92 : decode cX1_putControl 92 = .ok (.invokestatic 46, 3) := by decide +kernel
theorem dX1_putControl_95 : decode cX1_putControl 95 = .ok (.isub, 1) := by decide +kernel
theorem dX1_putControl_96 : decode cX1_putControl 96 = .ok (.putfield 87, 3) := by decide +kernel
theorem dX1_putControl_99 : decode cX1_putControl 99 = .ok (.goto 63, 3) := by decide +kernel
theorem dX1_putControl_102 : decode cX1_putControl 102 = .ok (.aload_n 0, 1) := by decide +kernel
theorem dX1_putControl_103 : decode cX1_putControl 103 = .ok (.iload_n 2, 1) := by decide +kernel
theorem dX1_putControl_104 : decode cX1_putControl 104 = .ok (.putfield 178, 3) := by decide +kernel
theorem dX1_putControl_107 : decode cX1_putControl 107 = .ok (.goto 55, 3) := by decide +kernel
theorem dX1_putControl_110 : decode cX1_putControl 110 = .ok (.aload_n 0, 1) := by decide +kernel
theorem dX1_putControl_111 : decode cX1_putControl 111 = .ok (.iload_n 2, 1) := by decide +kernel
theorem dX1_putControl_112 : decode cX1_putControl 112 = .ok (.iload_n 2, 1) := by decide +kernel
theorem dX1_putControl_113 : decode cX1_putControl 113 = .ok (.iconst 0, 1) := by decide +kernel
theorem dX1_putControl_114 : decode cX1_putControl 114 = .ok (.iconst 1, 1) := by decide +kernel
theorem dX1_putControl_115 : decode cX1_putControl 115 = .ok (.invokestatic 46, 3) := by decide +kernel
theorem dX1_putControl_118 : decode cX1_putControl 118 = .ok (.isub, 1) := by decide +kernel
theorem dX1_putControl_119 : decode cX1_putControl 119 = .ok (.putfield 78, 3) := by decide +kernel
theorem dX1_putControl_122 : decode cX1_putControl 122 = .ok (.goto 40, 3) := by decide +kernel
theorem dX1_putControl_125 : decode cX1_putControl 125 = .ok (.aload_n 0, 1) := by decide +kernel
theorem dX1_putControl_126 : decode cX1_putControl 126 = .ok (.iload_n 2, 1) := by decide +kernel
theorem dX1_putControl_127 : decode cX1_putControl 127 = .ok (.putfield 81, 3) := by decide +kernel
theorem dX1_putControl_130 : decode cX1_putControl 130 = .ok (.goto 32, 3) := by decide +kernel
theorem dX1_putControl_133 : decode cX1_putControl 133 = .ok (.aload_n 0, 1) := by decide +kernel
theorem dX1_putControl_134 : decode cX1_putControl 134 = .ok (.iload_n 2, 1) := by decide +kernel
theorem dX1_putControl_135 : decode cX1_putControl 135 = .ok (.putfield 84, 3) := by decide +kernel
theorem dX1_putControl_138 : decode cX1_putControl 138 = .ok (.goto 24, 3) := by decide +kernel
theorem dX1_putControl_141 : decode cX1_putControl 141 = .ok (.aload_n 0, 1) := by decide +kernel
theorem dX1_putControl_142 : decode cX1_putControl 142 = .ok (.iload_n 2, 1) := by decide +kernel
theorem dX1_putControl_143 : decode cX1_putControl 143 = .ok (.putfield 57, 3) := by decide +kernel
theorem dX1_putControl_146 : decode cX1_putControl 146 = .ok (.goto 16, 3) := by decide +kernel
theorem dX1_putControl_149 : decode cX1_putControl 149 = .ok (.aload_n 0, 1) := by decide +kernel
theorem dX1_putControl_150 : decode cX1_putControl 150 = .ok (.iload_n 2, 1) := by decide +kernel
theorem dX1_putControl_151 : decode cX1_putControl 151 = .ok (.putfield 21, 3) := by decide +kernel
theorem dX1_putControl_154 : decode cX1_putControl 154 = .ok (.goto 8, 3) := by decide +kernel
theorem dX1_putControl_157 : decode cX1_putControl 157 = .ok (.aload_n 0, 1) := by decide +kernel
theorem dX1_putControl_158 : decode cX1_putControl 158 = .ok (.iload_n 2, 1) := by decide +kernel
theorem dX1_putControl_159 : decode cX1_putControl 159 = .ok (.putfield 24, 3) := by decide +kernel
theorem dX1_putControl_162 : decode cX1_putControl 162 = .ok (.return_, 1) := by decide +kernel
theorem dX1_run_0 : decode cX1_run 0 = .ok (.aload_n 0, 1) := by decide +kernel
theorem dX1_run_1 : decode cX1_run 1 = .ok (.iload_n 1, 1) := by decide +kernel
theorem dX1_run_2 : decode cX1_run 2 = .ok (.ifCond .lt 10, 3) := by decide +kernel
theorem dX1_run_5 : decode cX1_run 5 = .ok (.iload_n 1, 1) := by decide +kernel
theorem dX1_run_6 : decode cX1_run 6 = .ok (.sipush 20000, 3) := by decide +kernel
theorem dX1_run_9 : decode cX1_run 9 = .ok (.if_icmp .le 7, 3) := by decide +kernel
theorem dX1_run_12 : decode cX1_run 12 = .ok (.iconst 1, 1) := by decide +kernel
theorem dX1_run_13 : decode cX1_run 13 = .ok (.goto 4, 3) := by decide +kernel
theorem dX1_run_16 : decode cX1_run 16 = .ok (.iconst 0, 1) := by decide +kernel
theorem dX1_run_17 : decode cX1_run 17 = .ok (.putfield 31, 3) := by decide +kernel
theorem dX1_run_20 : decode cX1_run 20 = .ok (.aload_n 0, 1) := by decide +kernel
theorem dX1_run_21 : decode cX1_run 21 = .ok (.getfield 31, 3) := by decide +kernel
theorem dX1_run_24 : decode cX1_run 24 = .ok (.ifCond .gt 7, 3) := by decide +kernel
theorem dX1_run_27 : decode cX1_run 27 = .ok (.iload_n 1, 1) := by decide +kernel
theorem dX1_run_28 : decode cX1_run 28 = .ok (.ifCond .ne 5, 3) := by decide +kernel
theorem dX1_run_31 : decode cX1_run 31 = .ok (.iconst 0, 1) := by decide +kernel
theorem dX1_run_32 : decode cX1_run 32 = .ok (.ireturn, 1) := by decide +kernel
theorem dX1_run_33 : decode cX1_run 33 = .ok (.aload_n 0, 1) := by decide +kernel
theorem dX1_run_34 : decode cX1_run 34 = .ok (.iconst 0, 1) := by decide +kernel
theorem dX1_run_35 : decode cX1_run 35 = .ok (.putfield 27, 3) := by decide +kernel
theorem dX1_run_38 : decode cX1_run 38 = .ok (.iconst 0, 1) := by decide +kernel
theorem dX1_run_39 : decode cX1_run 39 = .ok (.istore_n 2, 1) := by decide +kernel
theorem dX1_run_40 : decode cX1_run 40 = .ok (.iload_n 2, 1) := by decide +kernel
theorem dX1_run_41 : decode cX1_run 41 = .ok (.iload_n 1, 1) := by decide +kernel
theorem dX1_run_42 : decode cX1_run 42 = .ok (.if_icmp .ge 20, 3) := by decide +kernel
theorem dX1_run_45 : decode cX1_run 45 = .ok (.aload_n 0, 1) := by decide +kernel
theorem dX1_run_46 : decode cX1_run 46 = .ok (.getfield 27, 3) := by decide +kernel
theorem dX1_run_49 : decode cX1_run 49 = .ok (.ifCond .ne 13, 3) := by decide +kernel
theorem dX1_run_52 : decode cX1_run 52 = .ok (.aload_n 0, 1) := by decide +kernel
theorem dX1_run_53 : decode cX1_run 53 = .ok (.invokevirtual 182, 3) := by decide +kernel
theorem dX1_run_56 : decode cX1_run 56 = .ok (.iinc 2 1, 3) := by decide +kernel
theorem dX1_run_59 : decode cX1_run 59 = .ok (.goto (-19), 3) := by decide +kernel
theorem dX1_run_62 : decode cX1_run 62 = .ok (.iload_n 2, 1) := by decide +kernel
theorem dX1_run_63 : decode cX1_run 63 = .ok (.ireturn, 1) := by decide +kernel
theorem dX1_called_0 : decode cX1_called 0 = .ok (.aload_n 0, 1) := by decide +kernel
theorem dX1_called_1 : decode cX1_called 1 = .ok (.iconst 0, 1) := by decide +kernel
theorem dX1_called_2 : decode cX1_called 2 = .ok (.putfield 31, 3) := by decide +kernel
theorem dX1_called_5 : decode cX1_called 5 = .ok (.aload_n 0, 1) := by decide +kernel
theorem dX1_called_6 : decode cX1_called 6 = .ok (.getfield 27, 3) := by decide +kernel
theorem dX1_called_9 : decode cX1_called 9 = .ok (.ireturn, 1) := by decide +kernel
theorem dX1_isPlace_0 : decode cX1_isPlace 0 = .ok (.iload_n 0, 1) := by decide +kernel
theorem dX1_isPlace_1 : decode cX1_isPlace 1 = .ok (.invokestatic 60, 3) := by decide +kernel
theorem dX1_isPlace_4 : decode cX1_isPlace 4 = .ok (.ifCond .eq 13, 3) := by decide +kernel
theorem dX1_isPlace_7 : decode cX1_isPlace 7 = .ok (.iload_n 0, 1) := by decide +kernel
theorem dX1_isPlace_8 : decode cX1_isPlace 8 = .ok (.iconst 4, 1) := by decide +kernel
theorem dX1_isPlace_9 : decode cX1_isPlace 9 = .ok (.irem, 1) := by decide +kernel
theorem dX1_isPlace_10 : decode cX1_isPlace 10 = .ok (.ifCond .ne 7, 3) := by decide +kernel
theorem dX1_isPlace_13 : decode cX1_isPlace 13 = .ok (.iconst 1, 1) := by decide +kernel
theorem dX1_isPlace_14 : decode cX1_isPlace 14 = .ok (.goto 4, 3) := by decide +kernel
theorem dX1_isPlace_17 : decode cX1_isPlace 17 = .ok (.iconst 0, 1) := by decide +kernel
theorem dX1_isPlace_18 : decode cX1_isPlace 18 = .ok (.ireturn, 1) := by decide +kernel
theorem dX1_peek_0 : decode cX1_peek 0 = .ok (.aload_n 0, 1) := by decide +kernel
theorem dX1_peek_1 : decode cX1_peek 1 = .ok (.iload_n 1, 1) := by decide +kernel
theorem dX1_peek_2 : decode cX1_peek 2 = .ok (.invokestatic 185, 3) := by decide +kernel
theorem dX1_peek_5 : decode cX1_peek 5 = .ok (.ifCond .eq 7, 3) := by decide +kernel
theorem dX1_peek_8 : decode cX1_peek 8 = .ok (.iconst 0, 1) := by decide +kernel
theorem dX1_peek_9 : decode cX1_peek 9 = .ok (.goto 4, 3) := by decide +kernel
theorem dX1_peek_12 : decode cX1_peek 12 = .ok (.iconst 1, 1) := by decide +kernel
theorem dX1_peek_13 : decode cX1_peek 13 = .ok (.putfield 31, 3) := by decide +kernel
theorem dX1_peek_16 : decode cX1_peek 16 = .ok (.aload_n 0, 1) := by decide +kernel
theorem dX1_peek_17 : decode cX1_peek 17 = .ok (.getfield 31, 3) := by decide +kernel
theorem dX1_peek_20 : decode cX1_peek 20 = .ok (.ifCond .le 7, 3) := by decide +kernel
theorem dX1_peek_23 : decode cX1_peek 23 = .ok (.iconst 0, 1) := by decide +kernel
theorem dX1_peek_24 : decode cX1_peek 24 = .ok (.goto 11, 3) := by decide +kernel
theorem dX1_peek_27 : decode cX1_peek 27 = .ok (.aload_n 0, 1) := by decide +kernel
theorem dX1_peek_28 : decode cX1_peek 28 = .ok (.getfield 8, 3) := by decide +kernel
theorem dX1_peek_31 : decode cX1_peek 31 = .ok (.iload_n 1, 1) := by decide +kernel
theorem dX1_peek_32 : decode cX1_peek 32 = .ok (.iconst 4, 1) := by decide +kernel
theorem dX1_peek_33 : decode cX1_peek 33 = .ok (.idiv, 1) := by decide +kernel
theorem dX1_peek_34 : decode cX1_peek 34 = .ok (.iaload, 1) := by decide +kernel
theorem dX1_peek_35 : decode cX1_peek 35 = .ok (.ireturn, 1) := by decide +kernel
theorem dX1_poke_0 : decode cX1_poke 0 = .ok (.aload_n 0, 1) := by decide +kernel
theorem dX1_poke_1 : decode cX1_poke 1 = .ok (.iload_n 1, 1) := by decide +kernel
theorem dX1_poke_2 : decode cX1_poke 2 = .ok (.invokestatic 185, 3) := by decide +kernel
theorem dX1_poke_5 : decode cX1_poke 5 = .ok (.ifCond .eq 7, 3) := by decide +kernel
theorem dX1_poke_8 : decode cX1_poke 8 = .ok (.iconst 0, 1) := by decide +kernel
theorem dX1_poke_9 : decode cX1_poke 9 = .ok (.goto 4, 3) := by decide +kernel
theorem dX1_poke_12 : decode cX1_poke 12 = .ok (.iconst 1, 1) := by decide +kernel
theorem dX1_poke_13 : decode cX1_poke 13 = .ok (.putfield 31, 3) := by decide +kernel
theorem dX1_poke_16 : decode cX1_poke 16 = .ok (.aload_n 0, 1) := by decide +kernel
theorem dX1_poke_17 : decode cX1_poke 17 = .ok (.getfield 31, 3) := by decide +kernel
theorem dX1_poke_20 : decode cX1_poke 20 = .ok (.ifCond .ne 12, 3) := by decide +kernel
theorem dX1_poke_23 : decode cX1_poke 23 = .ok (.aload_n 0, 1) := by decide +kernel
theorem dX1_poke_24 : decode cX1_poke 24 = .ok (.getfield 8, 3) := by decide +kernel
theorem dX1_poke_27 : decode cX1_poke 27 = .ok (.iload_n 1, 1) := by decide +kernel
theorem dX1_poke_28 : decode cX1_poke 28 = .ok (.iconst 4, 1) := by decide +kernel
theorem dX1_poke_29 : decode cX1_poke 29 = .ok (.idiv, 1) := by decide +kernel
theorem dX1_poke_30 : decode cX1_poke 30 = .ok (.iload_n 2, 1) := by decide +kernel
theorem dX1_poke_31 : decode cX1_poke 31 = .ok (.iastore, 1) := by decide +kernel
theorem dX1_poke_32 : decode cX1_poke 32 = .ok (.return_, 1) := by decide +kernel
theorem dX1_pokeFour_0 : decode cX1_pokeFour 0 = .ok (.aload_n 0, 1) := by decide +kernel
theorem dX1_pokeFour_1 : decode cX1_pokeFour 1 = .ok (.iload_n 1, 1) := by decide +kernel
theorem dX1_pokeFour_2 : decode cX1_pokeFour 2 = .ok (.invokestatic 185, 3) := by decide +kernel
theorem dX1_pokeFour_5 : decode cX1_pokeFour 5 = .ok (.ifCond .eq 13, 3) := by decide +kernel
theorem dX1_pokeFour_8 : decode cX1_pokeFour 8 = .ok (.iload_n 1, 1) := by decide +kernel
theorem dX1_pokeFour_9 : decode cX1_pokeFour 9 = .ok (.ldc 188, 2) := by decide +kernel
theorem dX1_pokeFour_11 : decode cX1_pokeFour 11 = .ok (.if_icmp .gt 7, 3) := by decide +kernel
theorem dX1_pokeFour_14 : decode cX1_pokeFour 14 = .ok (.iconst 0, 1) := by decide +kernel
theorem dX1_pokeFour_15 : decode cX1_pokeFour 15 = .ok (.goto 4, 3) := by decide +kernel
theorem dX1_pokeFour_18 : decode cX1_pokeFour 18 = .ok (.iconst 1, 1) := by decide +kernel
theorem dX1_pokeFour_19 : decode cX1_pokeFour 19 = .ok (.putfield 31, 3) := by decide +kernel
theorem dX1_pokeFour_22 : decode cX1_pokeFour 22 = .ok (.aload_n 0, 1) := by decide +kernel
theorem dX1_pokeFour_23 : decode cX1_pokeFour 23 = .ok (.getfield 31, 3) := by decide +kernel
theorem dX1_pokeFour_26 : decode cX1_pokeFour 26 = .ok (.ifCond .ne 47, 3) := by decide +kernel
theorem dX1_pokeFour_29 : decode cX1_pokeFour 29 = .ok (.aload_n 0, 1) := by decide +kernel
theorem dX1_pokeFour_30 : decode cX1_pokeFour 30 = .ok (.getfield 8, 3) := by decide +kernel
theorem dX1_pokeFour_33 : decode cX1_pokeFour 33 = .ok (.iload_n 1, 1) := by decide +kernel
theorem dX1_pokeFour_34 : decode cX1_pokeFour 34 = .ok (.iconst 4, 1) := by decide +kernel
theorem dX1_pokeFour_35 : decode cX1_pokeFour 35 = .ok (.idiv, 1) := by decide +kernel
theorem dX1_pokeFour_36 : decode cX1_pokeFour 36 = .ok (.iload_n 2, 1) := by decide +kernel
theorem dX1_pokeFour_37 : decode cX1_pokeFour 37 = .ok (.iastore, 1) := by decide +kernel
theorem dX1_pokeFour_38 : decode cX1_pokeFour 38 = .ok (.aload_n 0, 1) := by decide +kernel
theorem dX1_pokeFour_39 : decode cX1_pokeFour 39 = .ok (.getfield 8, 3) := by decide +kernel
theorem dX1_pokeFour_42 : decode cX1_pokeFour 42 = .ok (.iload_n 1, 1) := by decide +kernel
theorem dX1_pokeFour_43 : decode cX1_pokeFour 43 = .ok (.iconst 4, 1) := by decide +kernel
theorem dX1_pokeFour_44 : decode cX1_pokeFour 44 = .ok (.idiv, 1) := by decide +kernel
theorem dX1_pokeFour_45 : decode cX1_pokeFour 45 = .ok (.iconst 1, 1) := by decide +kernel
theorem dX1_pokeFour_46 : decode cX1_pokeFour 46 = .ok (.iadd, 1) := by decide +kernel
theorem dX1_pokeFour_47 : decode cX1_pokeFour 47 = .ok (.iload_n 3, 1) := by decide +kernel
theorem dX1_pokeFour_48 : decode cX1_pokeFour 48 = .ok (.iastore, 1) := by decide +kernel
theorem dX1_pokeFour_49 : decode cX1_pokeFour 49 = .ok (.aload_n 0, 1) := by decide +kernel
theorem dX1_pokeFour_50 : decode cX1_pokeFour 50 = .ok (.getfield 8, 3) := by decide +kernel
theorem dX1_pokeFour_53 : decode cX1_pokeFour 53 = .ok (.iload_n 1, 1) := by decide +kernel
theorem dX1_pokeFour_54 : decode cX1_pokeFour 54 = .ok (.iconst 4, 1) := by decide +kernel
theorem dX1_pokeFour_55 : decode cX1_pokeFour 55 = .ok (.idiv, 1) := by decide +kernel
theorem dX1_pokeFour_56 : decode cX1_pokeFour 56 = .ok (.iconst 2, 1) := by decide +kernel
theorem dX1_pokeFour_57 : decode cX1_pokeFour 57 = .ok (.iadd, 1) := by decide +kernel
theorem dX1_pokeFour_58 : decode cX1_pokeFour 58 = .ok (.iload 4, 2) := by decide +kernel
theorem dX1_pokeFour_60 : decode cX1_pokeFour 60 = .ok (.iastore, 1) := by decide +kernel
theorem dX1_pokeFour_61 : decode cX1_pokeFour 61 = .ok (.aload_n 0, 1) := by decide +kernel
theorem dX1_pokeFour_62 : decode cX1_pokeFour 62 = .ok (.getfield 8, 3) := by decide +kernel
theorem dX1_pokeFour_65 : decode cX1_pokeFour 65 = .ok (.iload_n 1, 1) := by decide +kernel
theorem dX1_pokeFour_66 : decode cX1_pokeFour 66 = .ok (.iconst 4, 1) := by decide +kernel
theorem dX1_pokeFour_67 : decode cX1_pokeFour 67 = .ok (.idiv, 1) := by decide +kernel
theorem dX1_pokeFour_68 : decode cX1_pokeFour 68 = .ok (.iconst 3, 1) := by decide +kernel
theorem dX1_pokeFour_69 : decode cX1_pokeFour 69 = .ok (.iadd, 1) := by decide +kernel
theorem dX1_pokeFour_70 : decode cX1_pokeFour 70 = .ok (.iload 5, 2) := by decide +kernel
theorem dX1_pokeFour_72 : decode cX1_pokeFour 72 = .ok (.iastore, 1) := by decide +kernel
theorem dX1_pokeFour_73 : decode cX1_pokeFour 73 = .ok (.return_, 1) := by decide +kernel
theorem dX1_register_0 : decode cX1_register 0 = .ok (.aload_n 0, 1) := by decide +kernel
theorem dX1_register_1 : decode cX1_register 1 = .ok (.iload_n 1, 1) := by decide +kernel
theorem dX1_register_2 : decode cX1_register 2 = .ok (.ifCond .lt 9, 3) := by decide +kernel
theorem dX1_register_5 : decode cX1_register 5 = .ok (.iload_n 1, 1) := by decide +kernel
theorem dX1_register_6 : decode cX1_register 6 = .ok (.bipush 33, 2) := by decide +kernel
theorem dX1_register_8 : decode cX1_register 8 = .ok (.if_icmp .le 7, 3) := by decide +kernel
theorem dX1_register_11 : decode cX1_register 11 = .ok (.iconst 1, 1) := by decide +kernel
theorem dX1_register_12 : decode cX1_register 12 = .ok (.goto 4, 3) := by decide +kernel
theorem dX1_register_15 : decode cX1_register 15 = .ok (.iconst 0, 1) := by decide +kernel
theorem dX1_register_16 : decode cX1_register 16 = .ok (.putfield 31, 3) := by decide +kernel
theorem dX1_register_19 : decode cX1_register 19 = .ok (.aload_n 0, 1) := by decide +kernel
theorem dX1_register_20 : decode cX1_register 20 = .ok (.getfield 31, 3) := by decide +kernel
theorem dX1_register_23 : decode cX1_register 23 = .ok (.ifCond .le 7, 3) := by decide +kernel
theorem dX1_register_26 : decode cX1_register 26 = .ok (.iconst 0, 1) := by decide +kernel
theorem dX1_register_27 : decode cX1_register 27 = .ok (.goto 35, 3) := by decide +kernel
theorem dX1_register_30 : decode cX1_register 30 = .ok (.iload_n 1, 1) := by decide +kernel
theorem dX1_register_31 : decode cX1_register 31 = .ok (.bipush 32, 2) := by decide +kernel
theorem dX1_register_33 : decode cX1_register 33 = .ok (.if_icmp .ne 10, 3) := by decide +kernel
theorem dX1_register_36 : decode cX1_register 36 = .ok (.aload_n 0, 1) := by decide +kernel
theorem dX1_register_37 : decode cX1_register 37 = .ok (.getfield 75, 3) := by decide +kernel
theorem dX1_register_40 : decode cX1_register 40 = .ok (.goto 22, 3) := by decide +kernel
theorem dX1_register_43 : decode cX1_register 43 = .ok (.iload_n 1, 1) := by decide +kernel
theorem dX1_register_44 : decode cX1_register 44 = .ok (.bipush 33, 2) := by decide +kernel
theorem dX1_register_46 : decode cX1_register 46 = .ok (.if_icmp .ne 10, 3) := by decide +kernel
theorem dX1_register_49 : decode cX1_register 49 = .ok (.aload_n 0, 1) := by decide +kernel
theorem dX1_register_50 : decode cX1_register 50 = .ok (.getfield 17, 3) := by decide +kernel
theorem dX1_register_53 : decode cX1_register 53 = .ok (.goto 9, 3) := by decide +kernel
theorem dX1_register_56 : decode cX1_register 56 = .ok (.aload_n 0, 1) := by decide +kernel
theorem dX1_register_57 : decode cX1_register 57 = .ok (.getfield 14, 3) := by decide +kernel
theorem dX1_register_60 : decode cX1_register 60 = .ok (.iload_n 1, 1) := by decide +kernel
theorem dX1_register_61 : decode cX1_register 61 = .ok (.iaload, 1) := by decide +kernel
theorem dX1_register_62 : decode cX1_register 62 = .ok (.ireturn, 1) := by decide +kernel
theorem dX1_setRegister_0 : decode cX1_setRegister 0 = .ok (.aload_n 0, 1) := by decide +kernel
theorem dX1_setRegister_1 : decode cX1_setRegister 1 = .ok (.iload_n 1, 1) := by decide +kernel
theorem dX1_setRegister_2 : decode cX1_setRegister 2 = .ok (.ifCond .lt 9, 3) := by decide +kernel
theorem dX1_setRegister_5 : decode cX1_setRegister 5 = .ok (.iload_n 1, 1) := by decide +kernel
theorem dX1_setRegister_6 : decode cX1_setRegister 6 = .ok (.bipush 33, 2) := by decide +kernel
theorem dX1_setRegister_8 : decode cX1_setRegister 8 = .ok (.if_icmp .le 7, 3) := by decide +kernel
theorem dX1_setRegister_11 : decode cX1_setRegister 11 = .ok (.iconst 1, 1) := by decide +kernel
theorem dX1_setRegister_12 : decode cX1_setRegister 12 = .ok (.goto 4, 3) := by decide +kernel
theorem dX1_setRegister_15 : decode cX1_setRegister 15 = .ok (.iconst 0, 1) := by decide +kernel
theorem dX1_setRegister_16 : decode cX1_setRegister 16 = .ok (.putfield 31, 3) := by decide +kernel
theorem dX1_setRegister_19 : decode cX1_setRegister 19 = .ok (.aload_n 0, 1) := by decide +kernel
theorem dX1_setRegister_20 : decode cX1_setRegister 20 = .ok (.getfield 31, 3) := by decide +kernel
theorem dX1_setRegister_23 : decode cX1_setRegister 23 = .ok (.ifCond .le 4, 3) := by decide +kernel
theorem dX1_setRegister_26 : decode cX1_setRegister 26 = .ok (.return_, 1) := by decide +kernel
theorem dX1_setRegister_27 : decode cX1_setRegister 27 = .ok (.iload_n 1, 1) := by decide +kernel
theorem dX1_setRegister_28 : decode cX1_setRegister 28 = .ok (.bipush 32, 2) := by decide +kernel
theorem dX1_setRegister_30 : decode cX1_setRegister 30 = .ok (.if_icmp .ne 11, 3) := by decide +kernel
theorem dX1_setRegister_33 : decode cX1_setRegister 33 = .ok (.aload_n 0, 1) := by decide +kernel
theorem dX1_setRegister_34 : decode cX1_setRegister 34 = .ok (.iload_n 2, 1) := by decide +kernel
theorem dX1_setRegister_35 : decode cX1_setRegister 35 = .ok (.putfield 75, 3) := by decide +kernel
theorem dX1_setRegister_38 : decode cX1_setRegister 38 = .ok (.goto 28, 3) := by decide +kernel
theorem dX1_setRegister_41 : decode cX1_setRegister 41 = .ok (.iload_n 1, 1) := by decide +kernel
theorem dX1_setRegister_42 : decode cX1_setRegister 42 = .ok (.bipush 33, 2) := by decide +kernel
theorem dX1_setRegister_44 : decode cX1_setRegister 44 = .ok (.if_icmp .ne 16, 3) := by decide +kernel
theorem dX1_setRegister_47 : decode cX1_setRegister 47 = .ok (.aload_n 0, 1) := by decide +kernel
theorem dX1_setRegister_48 : decode cX1_setRegister 48 = .ok (.iload_n 2, 1) := by decide +kernel
theorem dX1_setRegister_49 : decode cX1_setRegister 49 = .ok (.iconst 0, 1) := by decide +kernel
theorem dX1_setRegister_50 : decode cX1_setRegister 50 = .ok (.iconst 0, 1) := by decide +kernel
theorem dX1_setRegister_51 : decode cX1_setRegister 51 = .ok (.invokestatic 46, 3) := by decide +kernel
theorem dX1_setRegister_54 : decode cX1_setRegister 54 = .ok (.putfield 17, 3) := by decide +kernel
theorem dX1_setRegister_57 : decode cX1_setRegister 57 = .ok (.goto 9, 3) := by decide +kernel
theorem dX1_setRegister_60 : decode cX1_setRegister 60 = .ok (.aload_n 0, 1) := by decide +kernel
theorem dX1_setRegister_61 : decode cX1_setRegister 61 = .ok (.iload_n 1, 1) := by decide +kernel
theorem dX1_setRegister_62 : decode cX1_setRegister 62 = .ok (.iload_n 2, 1) := by decide +kernel
theorem dX1_setRegister_63 : decode cX1_setRegister 63 = .ok (.invokevirtual 112, 3) := by decide +kernel
theorem dX1_setRegister_66 : decode cX1_setRegister 66 = .ok (.return_, 1) := by decide +kernel
theorem dX1_control_0 : decode cX1_control 0 = .ok (.aload_n 0, 1) := by decide +kernel
theorem dX1_control_1 : decode cX1_control 1 = .ok (.iload_n 1, 1) := by decide +kernel
theorem dX1_control_2 : decode cX1_control 2 = .ok (.invokestatic 169, 3) := by decide +kernel
theorem dX1_control_5 : decode cX1_control 5 = .ok (.ifCond .eq 7, 3) := by decide +kernel
theorem dX1_control_8 : decode cX1_control 8 = .ok (.iconst 0, 1) := by decide +kernel
theorem dX1_control_9 : decode cX1_control 9 = .ok (.goto 4, 3) := by decide +kernel
theorem dX1_control_12 : decode cX1_control 12 = .ok (.iconst 1, 1) := by decide +kernel
theorem dX1_control_13 : decode cX1_control 13 = .ok (.putfield 31, 3) := by decide +kernel
theorem dX1_control_16 : decode cX1_control 16 = .ok (.aload_n 0, 1) := by decide +kernel
theorem dX1_control_17 : decode cX1_control 17 = .ok (.getfield 31, 3) := by decide +kernel
theorem dX1_control_20 : decode cX1_control 20 = .ok (.ifCond .le 7, 3) := by decide +kernel
theorem dX1_control_23 : decode cX1_control 23 = .ok (.iconst 0, 1) := by decide +kernel
theorem dX1_control_24 : decode cX1_control 24 = .ok (.goto 8, 3) := by decide +kernel
theorem dX1_control_27 : decode cX1_control 27 = .ok (.aload_n 0, 1) := by decide +kernel
theorem dX1_control_28 : decode cX1_control 28 = .ok (.iload_n 1, 1) := by decide +kernel
theorem dX1_control_29 : decode cX1_control 29 = .ok (.invokevirtual 172, 3) := by decide +kernel
theorem dX1_control_32 : decode cX1_control 32 = .ok (.ireturn, 1) := by decide +kernel
theorem dX1_setControl_0 : decode cX1_setControl 0 = .ok (.aload_n 0, 1) := by decide +kernel
theorem dX1_setControl_1 : decode cX1_setControl 1 = .ok (.iload_n 1, 1) := by decide +kernel
theorem dX1_setControl_2 : decode cX1_setControl 2 = .ok (.invokestatic 169, 3) := by decide +kernel
theorem dX1_setControl_5 : decode cX1_setControl 5 = .ok (.ifCond .eq 7, 3) := by decide +kernel
theorem dX1_setControl_8 : decode cX1_setControl 8 = .ok (.iconst 0, 1) := by decide +kernel
theorem dX1_setControl_9 : decode cX1_setControl 9 = .ok (.goto 4, 3) := by decide +kernel
theorem dX1_setControl_12 : decode cX1_setControl 12 = .ok (.iconst 1, 1) := by decide +kernel
theorem dX1_setControl_13 : decode cX1_setControl 13 = .ok (.putfield 31, 3) := by decide +kernel
theorem dX1_setControl_16 : decode cX1_setControl 16 = .ok (.aload_n 0, 1) := by decide +kernel
theorem dX1_setControl_17 : decode cX1_setControl 17 = .ok (.getfield 31, 3) := by decide +kernel
theorem dX1_setControl_20 : decode cX1_setControl 20 = .ok (.ifCond .ne 9, 3) := by decide +kernel
theorem dX1_setControl_23 : decode cX1_setControl 23 = .ok (.aload_n 0, 1) := by decide +kernel
theorem dX1_setControl_24 : decode cX1_setControl 24 = .ok (.iload_n 1, 1) := by decide +kernel
theorem dX1_setControl_25 : decode cX1_setControl 25 = .ok (.iload_n 2, 1) := by decide +kernel
theorem dX1_setControl_26 : decode cX1_setControl 26 = .ok (.invokevirtual 175, 3) := by decide +kernel
theorem dX1_setControl_29 : decode cX1_setControl 29 = .ok (.return_, 1) := by decide +kernel
theorem dX1_translate_0 : decode cX1_translate 0 = .ok (.aload_n 0, 1) := by decide +kernel
theorem dX1_translate_1 : decode cX1_translate 1 = .ok (.iload_n 2, 1) := by decide +kernel
theorem dX1_translate_2 : decode cX1_translate 2 = .ok (.ifCond .lt 8, 3) := by decide +kernel
theorem dX1_translate_5 : decode cX1_translate 5 = .ok (.iload_n 2, 1) := by decide +kernel
theorem dX1_translate_6 : decode cX1_translate 6 = .ok (.iconst 2, 1) := by decide +kernel
theorem dX1_translate_7 : decode cX1_translate 7 = .ok (.if_icmp .le 7, 3) := by decide +kernel
theorem dX1_translate_10 : decode cX1_translate 10 = .ok (.iconst 1, 1) := by decide +kernel
theorem dX1_translate_11 : decode cX1_translate 11 = .ok (.goto 4, 3) := by decide +kernel
theorem dX1_translate_14 : decode cX1_translate 14 = .ok (.iconst 0, 1) := by decide +kernel
theorem dX1_translate_15 : decode cX1_translate 15 = .ok (.putfield 31, 3) := by decide +kernel
theorem dX1_translate_18 : decode cX1_translate 18 = .ok (.aload_n 0, 1) := by decide +kernel
theorem dX1_translate_19 : decode cX1_translate 19 = .ok (.getfield 31, 3) := by decide +kernel
theorem dX1_translate_22 : decode cX1_translate 22 = .ok (.ifCond .le 5, 3) := by decide +kernel
theorem dX1_translate_25 : decode cX1_translate 25 = .ok (.iconst 0, 1) := by decide +kernel
theorem dX1_translate_26 : decode cX1_translate 26 = .ok (.ireturn, 1) := by decide +kernel
theorem dX1_translate_27 : decode cX1_translate 27 = .ok (.aload_n 0, 1) := by decide +kernel
theorem dX1_translate_28 : decode cX1_translate 28 = .ok (.iload_n 1, 1) := by decide +kernel
theorem dX1_translate_29 : decode cX1_translate 29 = .ok (.iload_n 2, 1) := by decide +kernel
theorem dX1_translate_30 : decode cX1_translate 30 = .ok (.invokevirtual 97, 3) := by decide +kernel
theorem dX1_translate_33 : decode cX1_translate 33 = .ok (.istore_n 3, 1) := by decide +kernel
theorem dX1_translate_34 : decode cX1_translate 34 = .ok (.aload_n 0, 1) := by decide +kernel
theorem dX1_translate_35 : decode cX1_translate 35 = .ok (.getfield 54, 3) := by decide +kernel
theorem dX1_translate_38 : decode cX1_translate 38 = .ok (.ifCond .lt 12, 3) := by decide +kernel
theorem dX1_translate_41 : decode cX1_translate 41 = .ok (.iconst (-1), 1) := by decide +kernel
end
section
theorem dX1_translate_42 : decode cX1_translate 42 = .ok (.aload_n 0, 1) := by decide +kernel
theorem dX1_translate_43 : decode cX1_translate 43 = .ok (.getfield 54, 3) := by decide +kernel
theorem dX1_translate_46 : decode cX1_translate 46 = .ok (.isub, 1) := by decide +kernel
theorem dX1_translate_47 : decode cX1_translate 47 = .ok (.goto 4, 3) := by decide +kernel
theorem dX1_translate_50 : decode cX1_translate 50 = .ok (.iload_n 3, 1) := by decide +kernel
theorem dX1_translate_51 : decode cX1_translate 51 = .ok (.ireturn, 1) := by decide +kernel
end
section

/-- Java's >>> on ints and longs, as the rows have them -/
def jush (x y : Int32) : Int32 := (x.toUInt32 >>> (y.toUInt32 &&& Int32.toUInt32 31)).toInt32
def jlush (x : Int64) (y : Int32) : Int64 := (x.toUInt64 >>> (y.toInt64.toUInt64 &&& Int64.toUInt64 63)).toInt64
theorem jq {v r : Int32} (h : v = r) : Outcome.returned (some (.int v)) = .returned (some (.int r)) := by rw [h]
theorem jnb {v : Int32} (h : v = 0 ∨ v = 1) : narrow .boolean (.int v) = .int v := by rcases h with rfl | rfl <;> rfl
theorem jfb {v : Int32} (h : v = 0 ∨ v = 1) : fits .boolean (.int v) = true := by rcases h with rfl | rfl <;> rfl
theorem jin {i : Int32} {n : Nat} (h : decide (i < 0 ∨ n ≤ i.toNatClampNeg) = false) : vp_in i n := of_decide_eq_false h
theorem jblind {av : List Value} : FrameBlind (va_Pc av (fun _ => True)) := fun _ _ _ _ q => ⟨q.1, trivial⟩
section JG
variable {p : Program} {l : Launch} {e : Env} {R : Room} {s : State} {m : MethodId} {args : Array Value} {below : List Frame} {meth : Method} {c : Code} {H : Heap} {locs : List Loc} {cells slots : Nat} {Q : State → Prop} {g : JFrame}
theorem jgo {P : Heap → List Loc → Prop} (h : P H locs) (k : ∀ (H : Heap) (locs : List Loc), P H locs → W p l e R s m args below meth c H locs cells slots Q g) : W p l e R s m args below meth c H locs cells slots Q g := k H locs h
theorem jjoin {pc J : Nat} {ls : Array Slot} {rest st0 : List Value} {EX : Int32} (k : ∀ x : Int32, x = EX → W p l e R s m args below meth c H locs cells slots Q (F0 m J ls (.int x :: rest))) (seg : (∀ x : Int32, x = EX → W p l e R s m args below meth c H locs cells slots Q (F0 m J ls (.int x :: rest))) → W p l e R s m args below meth c H locs cells slots Q (F0 m pc ls st0)) : W p l e R s m args below meth c H locs cells slots Q (F0 m pc ls st0) := seg k
def QlRead (r : Int64) : Array Value → State → Outcome → State → Prop := fun _ st o t => o = .returned (some (.long r)) ∧ t.heap = st.heap
theorem jql {v r : Int64} (h : v = r) : Outcome.returned (some (.long v)) = .returned (some (.long r)) := by rw [h]
theorem jcallRl {r : Int64} {a : Array Value} {rest st0 : List Value} {pc : Nat} {ls : Array Slot} (hr : CallRun p l e R s m args below meth c H locs cells slots 0 0 (F0 m pc ls st0) rest (QlRead r a) (fun _ => False)) (kk : W p l e R s m args below meth c H locs cells slots Q (F0 m (pc + 3) ls (.long r :: rest))) : W p l e R s m args below meth c H locs cells slots Q (F0 m pc ls st0) := by
  intro T hT X
  obtain ⟨v, st₀, t, T', L, h0, X', hL, e1, ⟨hv, hh⟩, st⟩ := hr T hT X
  cases hv
  obtain ⟨t2, a1, b1⟩ := kk T' (by rw [e1, hh, h0]) (Stand.forget X' (fun q h => (hL q h).elim))
  exact ⟨t2, st t2 a1, b1⟩
end JG
/-- the static tables: CONTROL_NUMBERS, CONTROL_BITS -/
def hNum (j : Nat) : Int32 := [256, 261, 320, 321, 322, 323, 384, 1472, 1473].getD j 0
def hBit (j : Nat) : Int32 := [262400, -4, -1, -4, -1, -1, -1, -1, -1].getD j 0

/-- the state of the class: its fields in their order -/
abbrev HS : Type := (Nat → Int32) × (Nat → Int32) × (Nat → Int32) × Int32 × Int32 × Int32
def gA (h0 qme0 qre1 qco2 sz : Nat) : Nat → Prop := fun q => q = h0 ∨ q = qme0 ∨ q = qre1 ∨ q = qco2 ∨ sz ≤ q
abbrev gW (cI h0 qme0 qre1 qco2 : Nat) (u : HS) : va_W := [(h0, .inr (0, [.ref qme0, .ref qre1, .ref qco2, .int u.2.2.2.1, .int u.2.2.2.2.1, .int u.2.2.2.2.2])), (qme0, .inl (cI, 65536, .inl u.1)), (qre1, .inl (cI, 32, .inl u.2.1)), (qco2, .inl (cI, 9, .inl u.2.2.1))]
/-- the static tables, at addresses that no method's cells are -/
def gZ (tN tB : Nat) (A : Nat → Prop) (U : State) (H : Heap) : Prop := va_Z "PagedHart" "CONTROL_NUMBERS" "[I" (.ref tN) A U H ∧ va_T .int tN 9 (fun j => .int (hNum j)) A U H ∧ va_Z "PagedHart" "CONTROL_BITS" "[I" (.ref tB) A U H ∧ va_T .int tB 9 (fun j => .int (hBit j)) A U H
def gB (dC : Nat → ClassId) (dI : Nat → Nat → Nat) (cI h0 qme0 qre1 qco2 : Nat) (A : Nat → Prop) (u : HS) (t : State) : Prop := va_P (dC, dI) vwCl (gW cI h0 qme0 qre1 qco2 u) t.heap ∧ va_K (dC, dI) vwCl [(cI, .int)] t ∧ va_D A (gW cI h0 qme0 qre1 qco2 u)
def gPre (dC : Nat → ClassId) (dI : Nat → Nat → Nat) (cI h0 qme0 qre1 qco2 tN tB sz : Nat) (u : HS) : State → Prop := fun U => U.heap.size = sz ∧ va_P (dC, dI) vwCl (gW cI h0 qme0 qre1 qco2 u) U.heap ∧ va_K (dC, dI) vwCl [(cI, .int)] U ∧ va_D (fun _ => True) (gW cI h0 qme0 qre1 qco2 u) ∧ gZ tN tB (gA h0 qme0 qre1 qco2 sz) U U.heap
def gZp (tN tB : Nat) : State → Prop := fun U => gZ tN tB (fun _ => False) U U.heap
theorem gZ.moved {tN tB : Nat} {A : Nat → Prop} {u U : State} {H : Heap} (hvm : u.vm.Alike U.vm) (h : gZ tN tB A u H) : gZ tN tB A U H := ⟨h.1.moved hvm, h.2.1.moved hvm, h.2.2.1.moved hvm, h.2.2.2.moved hvm⟩
theorem gZ.kept {tN tB : Nat} {A : Nat → Prop} {U : State} {H H1 : Heap} (h : gZ tN tB A U H) (hq : ∀ a : Nat, a < H.size → ¬ A a → H1[a]? = H[a]?) : gZ tN tB A U H1 := ⟨h.1.kept hq, h.2.1.kept hq, h.2.2.1.kept hq, h.2.2.2.kept hq⟩
theorem gZ.narrow {tN tB : Nat} {A B : Nat → Prop} {U : State} {H : Heap} (h : gZ tN tB A U H) (hAB : ∀ q, B q → A q) : gZ tN tB B U H := ⟨h.1.narrow hAB, h.2.1.narrow hAB, h.2.2.1.narrow hAB, h.2.2.2.narrow hAB⟩
theorem gD {cI h0 qme0 qre1 qco2 sz : Nat} {u : HS} {A : Nat → Prop} (h : va_D A (gW cI h0 qme0 qre1 qco2 u)) : va_D (gA h0 qme0 qre1 qco2 sz) (gW cI h0 qme0 qre1 qco2 u) := by
  refine ⟨h.1, fun k q hk => ?_⟩
  have hm := List.mem_of_getElem? hk
  simp only [List.mem_cons, List.not_mem_nil, or_false] at hm
  unfold gA
  rcases hm with rfl | rfl | rfl | rfl <;> simp
theorem gDm {cI h0 qme0 qre1 qco2 a b : Nat} {u : HS} (h : va_D (gA h0 qme0 qre1 qco2 b) (gW cI h0 qme0 qre1 qco2 u)) : va_D (gA h0 qme0 qre1 qco2 a) (gW cI h0 qme0 qre1 qco2 u) := gD h
theorem gAm {h0 qme0 qre1 qco2 a b : Nat} (hab : a ≤ b) (q : Nat) (h : gA h0 qme0 qre1 qco2 b q) : gA h0 qme0 qre1 qco2 a q := by
  unfold gA at h ⊢
  omega
theorem gblind {av : List Value} {dC : Nat → ClassId} {dI : Nat → Nat → Nat} {cI h0 qme0 qre1 qco2 tN tB sz : Nat} {u : HS} : FrameBlind (va_Pc av (gPre dC dI cI h0 qme0 qre1 qco2 tN tB sz u)) := by
  intro a U g mk q
  obtain ⟨q0, q1, qP, qK, qD, qZ⟩ := q
  exact ⟨q0, q1, qP, va_K.moved (u := U) (U := U.calling g mk a) (Vm.Alike.refl U.vm) qK, qD, gZ.moved (u := U) (U := U.calling g mk a) (Vm.Alike.refl U.vm) qZ⟩
theorem gZblind {av : List Value} {tN tB : Nat} : FrameBlind (va_Pc av (gZp tN tB)) := by
  intro a U g mk q
  exact ⟨q.1, gZ.moved (u := U) (U := U.calling g mk a) (Vm.Alike.refl U.vm) q.2⟩
section gsec
variable {p : Program} {l : Launch} {e : Env} {R : Room} {s : State} {m : MethodId} {args : Array Value} {below : List Frame} {meth : Method} {c : Code} {H : Heap} {locs : List Loc} {cells slots : Nat} {Q : State → Prop}
variable {dC : Nat → ClassId} {dI : Nat → Nat → Nat} {cI h0 qme0 qre1 qco2 tN tB : Nat} {u : HS}
theorem gpreOf (hK : va_K (dC, dI) vwCl [(cI, .int)] s) (hP : va_P (dC, dI) vwCl (gW cI h0 qme0 qre1 qco2 u) H) (hD : va_D (gA h0 qme0 qre1 qco2 s.heap.size) (gW cI h0 qme0 qre1 qco2 u)) (hS : va_S (gA h0 qme0 qre1 qco2 s.heap.size) s.heap H locs) (hZ : gZ tN tB (gA h0 qme0 qre1 qco2 s.heap.size) s s.heap) (U : State) (hU : U.heap = H) (hW : s.WarmedH U.vm) : gPre dC dI cI h0 qme0 qre1 qco2 tN tB H.size u U :=
  ⟨by rw [hU], by rw [hU]; exact hP, va_K.moved hW.alike hK, hD.weaken (fun _ _ _ _ => trivial), by rw [hU]; exact ((hZ.moved hW.alike).kept hS.2.1).narrow (gAm hS.1)⟩
theorem gZpOf (hS : va_S (gA h0 qme0 qre1 qco2 s.heap.size) s.heap H locs) (hZ : gZ tN tB (gA h0 qme0 qre1 qco2 s.heap.size) s s.heap) (U : State) (hU : U.heap = H) (hW : s.WarmedH U.vm) : gZp tN tB U := by
  unfold gZp
  rw [hU]; exact ((hZ.moved hW.alike).kept hS.2.1).narrow (fun _ h => h.elim)
variable {y : MethodName} {bytes cc : ByteArray} {maxL nL n index pc : Nat} {ret : Option FieldType} {ws : List Cond} {rm : Room} {Ts : List Cond} {own : String} {As rest st0 : List Value} {ls : Array Slot}
theorem gR {f : Int32} (S : CallFix p m c cc nL s args Ts own) (hM : Met l y ws rm (va_Pc (.ref h0 :: As) (gPre dC dI cI h0 qme0 qre1 qco2 tN tB H.size u)) (QcRead f) 0 0 (fun _ => False)) (cw : CallW R s args own "PagedHart" index y bytes maxL ret ws rm 0 0 n)
    (hK : va_K (dC, dI) vwCl [(cI, .int)] s) (hP : va_P (dC, dI) vwCl (gW cI h0 qme0 qre1 qco2 u) H) (hD : va_D (gA h0 qme0 qre1 qco2 s.heap.size) (gW cI h0 qme0 qre1 qco2 u)) (hS : va_S (gA h0 qme0 qre1 qco2 s.heap.size) s.heap H locs) (hZ : gZ tN tB (gA h0 qme0 qre1 qco2 s.heap.size) s s.heap)
    (hn : As.length = n) (hsize : ls.size = nL) (hst : st0 = As.reverse ++ .ref h0 :: rest) (hr : (rest.map fun v => v.category).sum ≤ 8) (hdg : decode cc pc = .ok (.invokevirtual index, 3))
    (hf : cells ≤ R.cells ∧ slots ≤ R.slots)
    (kk : W p l e R s m args below meth c H locs cells slots Q (F0 m (pc + 3) ls (.int f :: rest))) : W p l e R s m args below meth c H locs cells slots Q (F0 m pc ls st0) :=
  W.callR (W.runV (As := As) (rest := rest) S hM cw ⟨gblind, va_recv hK hP (ci := 0) (q0 := 0) rfl rfl, fun U hU hW => ⟨rfl, gpreOf hK hP hD hS hZ U hU hW⟩⟩ rfl hn hsize hst (lv_room hr) hdg hf) kk
theorem gMi {f : Int32 × HS} (S : CallFix p m c cc nL s args Ts own) (hM : Met l y ws rm (va_Pc (.ref h0 :: As) (gPre dC dI cI h0 qme0 qre1 qco2 tN tB H.size u)) (va_Qi (fun r v => (r, v) = f) (gB dC dI cI h0 qme0 qre1 qco2 (gA h0 qme0 qre1 qco2 H.size)) (gA h0 qme0 qre1 qco2 H.size)) 0 0 (gA h0 qme0 qre1 qco2 H.size)) (cw : CallW R s args own "PagedHart" index y bytes maxL ret ws rm 0 0 n)
    (hK : va_K (dC, dI) vwCl [(cI, .int)] s) (hP : va_P (dC, dI) vwCl (gW cI h0 qme0 qre1 qco2 u) H) (hD : va_D (gA h0 qme0 qre1 qco2 s.heap.size) (gW cI h0 qme0 qre1 qco2 u)) (hS : va_S (gA h0 qme0 qre1 qco2 s.heap.size) s.heap H locs) (hZ : gZ tN tB (gA h0 qme0 qre1 qco2 s.heap.size) s s.heap)
    (hn : As.length = n) (hsize : ls.size = nL) (hst : st0 = As.reverse ++ .ref h0 :: rest) (hr : (rest.map fun v => v.category).sum ≤ 8) (hdg : decode cc pc = .ok (.invokevirtual index, 3))
    (hf : cells ≤ R.cells ∧ slots ≤ R.slots)
    (kk : ∀ (z : Int32 × HS), z = f → ∀ (H : Heap) (locs : List Loc), va_P (dC, dI) vwCl (gW cI h0 qme0 qre1 qco2 z.2) H → va_D (gA h0 qme0 qre1 qco2 s.heap.size) (gW cI h0 qme0 qre1 qco2 z.2) → va_S (gA h0 qme0 qre1 qco2 s.heap.size) s.heap H locs → W p l e R s m args below meth c H locs cells slots Q (F0 m (pc + 3) ls (.int z.1 :: rest))) : W p l e R s m args below meth c H locs cells slots Q (F0 m pc ls st0) := by
  refine va_calli (va_runV (As := As) (rest := rest) S hM cw ⟨gblind, va_recv hK hP (ci := 0) (q0 := 0) rfl rfl, fun U hU hW => ⟨rfl, gpreOf hK hP hD hS hZ U hU hW⟩⟩ rfl hn hsize hst (lv_room hr) hdg hf) hS (fun q _ h => gAm hS.1 q h) (fun q h => gAm hS.1 q h) (fun r v t H1 locs1 ht hvm hw hB hz hk hS1 => ?_)
  obtain ⟨hP1, -, hD1⟩ := hB
  rw [ht] at hP1
  exact kk (r, v) hw H1 locs1 hP1 (gDm hD1) hS1
theorem gMv {f : HS} (S : CallFix p m c cc nL s args Ts own) (hM : Met l y ws rm (va_Pc (.ref h0 :: As) (gPre dC dI cI h0 qme0 qre1 qco2 tN tB H.size u)) (va_Qv (fun v => v = f) (gB dC dI cI h0 qme0 qre1 qco2 (gA h0 qme0 qre1 qco2 H.size)) (gA h0 qme0 qre1 qco2 H.size)) 0 0 (gA h0 qme0 qre1 qco2 H.size)) (cw : CallW R s args own "PagedHart" index y bytes maxL ret ws rm 0 0 n)
    (hK : va_K (dC, dI) vwCl [(cI, .int)] s) (hP : va_P (dC, dI) vwCl (gW cI h0 qme0 qre1 qco2 u) H) (hD : va_D (gA h0 qme0 qre1 qco2 s.heap.size) (gW cI h0 qme0 qre1 qco2 u)) (hS : va_S (gA h0 qme0 qre1 qco2 s.heap.size) s.heap H locs) (hZ : gZ tN tB (gA h0 qme0 qre1 qco2 s.heap.size) s s.heap)
    (hn : As.length = n) (hsize : ls.size = nL) (hst : st0 = As.reverse ++ .ref h0 :: rest) (hr : (rest.map fun v => v.category).sum ≤ 8) (hdg : decode cc pc = .ok (.invokevirtual index, 3))
    (hf : cells ≤ R.cells ∧ slots ≤ R.slots)
    (kk : ∀ (z : HS), z = f → ∀ (H : Heap) (locs : List Loc), va_P (dC, dI) vwCl (gW cI h0 qme0 qre1 qco2 z) H → va_D (gA h0 qme0 qre1 qco2 s.heap.size) (gW cI h0 qme0 qre1 qco2 z) → va_S (gA h0 qme0 qre1 qco2 s.heap.size) s.heap H locs → W p l e R s m args below meth c H locs cells slots Q (F0 m (pc + 3) ls rest)) : W p l e R s m args below meth c H locs cells slots Q (F0 m pc ls st0) := by
  refine va_callv (va_runV (As := As) (rest := rest) S hM cw ⟨gblind, va_recv hK hP (ci := 0) (q0 := 0) rfl rfl, fun U hU hW => ⟨rfl, gpreOf hK hP hD hS hZ U hU hW⟩⟩ rfl hn hsize hst (lv_room hr) hdg hf) hS (fun q _ h => gAm hS.1 q h) (fun q h => gAm hS.1 q h) (fun v t H1 locs1 ht hvm hw hB hz hk hS1 => ?_)
  obtain ⟨hP1, -, hD1⟩ := hB
  rw [ht] at hP1
  exact kk v hw H1 locs1 hP1 (gDm hD1) hS1
theorem gIret {v : Int32} {f : Int32 × HS} (hx : p.tables.exec = Jvm.exec) (hb : c.code = cc) (hr : meth.sig.returnType = some .int) (hlocks : meth.locks = false) (hq : (v, u) = f) (hK : va_K (dC, dI) vwCl [(cI, .int)] s) (hP : va_P (dC, dI) vwCl (gW cI h0 qme0 qre1 qco2 u) H) (hD : va_D (gA h0 qme0 qre1 qco2 s.heap.size) (gW cI h0 qme0 qre1 qco2 u)) (hS : va_S (gA h0 qme0 qre1 qco2 s.heap.size) s.heap H locs) (hdg : decode cc pc = .ok (.ireturn, 1)) :
    W p l e R s m args below meth c H locs cells slots (MQ below (va_Qi (fun r v => (r, v) = f) (gB dC dI cI h0 qme0 qre1 qco2 (gA h0 qme0 qre1 qco2 s.heap.size)) (gA h0 qme0 qre1 qco2 s.heap.size)) args s cells slots (gA h0 qme0 qre1 qco2 s.heap.size)) (F0 m pc ls [.int v]) :=
  W.iret (v := v) hx hb hr (fun t ht hW => ⟨⟨v, u, rfl, hq, by rw [ht]; exact hP, va_K.moved hW.alike hK, hD⟩, hS.F ht⟩) hS.2.2 hdg hlocks
theorem gZret {v : Int32} {f : Int32 × HS} (hx : p.tables.exec = Jvm.exec) (hb : c.code = cc) (hr : meth.sig.returnType = some .boolean) (hlocks : meth.locks = false) (hn : narrow .boolean (.int v) = .int v) (hq : (v, u) = f) (hK : va_K (dC, dI) vwCl [(cI, .int)] s) (hP : va_P (dC, dI) vwCl (gW cI h0 qme0 qre1 qco2 u) H) (hD : va_D (gA h0 qme0 qre1 qco2 s.heap.size) (gW cI h0 qme0 qre1 qco2 u)) (hS : va_S (gA h0 qme0 qre1 qco2 s.heap.size) s.heap H locs) (hdg : decode cc pc = .ok (.ireturn, 1)) :
    W p l e R s m args below meth c H locs cells slots (MQ below (va_Qi (fun r v => (r, v) = f) (gB dC dI cI h0 qme0 qre1 qco2 (gA h0 qme0 qre1 qco2 s.heap.size)) (gA h0 qme0 qre1 qco2 s.heap.size)) args s cells slots (gA h0 qme0 qre1 qco2 s.heap.size)) (F0 m pc ls [.int v]) :=
  W.zret (v := v) hx hb hr hn (fun t ht hW => ⟨⟨v, u, rfl, hq, by rw [ht]; exact hP, va_K.moved hW.alike hK, hD⟩, hS.F ht⟩) hS.2.2 hdg hlocks
theorem gVret {f : HS} (hx : p.tables.exec = Jvm.exec) (hb : c.code = cc) (hr : meth.sig.returnType = none) (hlocks : meth.locks = false) (hq : u = f) (hK : va_K (dC, dI) vwCl [(cI, .int)] s) (hP : va_P (dC, dI) vwCl (gW cI h0 qme0 qre1 qco2 u) H) (hD : va_D (gA h0 qme0 qre1 qco2 s.heap.size) (gW cI h0 qme0 qre1 qco2 u)) (hS : va_S (gA h0 qme0 qre1 qco2 s.heap.size) s.heap H locs) (hdg : decode cc pc = .ok (.return_, 1)) :
    W p l e R s m args below meth c H locs cells slots (MQ below (va_Qv (fun v => v = f) (gB dC dI cI h0 qme0 qre1 qco2 (gA h0 qme0 qre1 qco2 s.heap.size)) (gA h0 qme0 qre1 qco2 s.heap.size)) args s cells slots (gA h0 qme0 qre1 qco2 s.heap.size)) (F0 m pc ls []) :=
  W.vret hx hb hr (fun t ht hW => ⟨⟨u, rfl, hq, by rw [ht]; exact hP, va_K.moved hW.alike hK, hD⟩, hS.F ht⟩) hS.2.2 hdg hlocks
end gsec
end
section
def h_isInMemory (p1 : Int32) : Int32 :=
  if p1 < 0 then
    (0 : Int32)
  else
    if (262144 : Int32) ≤ p1 then
      (0 : Int32)
    else
      (1 : Int32)
set_option maxHeartbeats 4000000 in
set_option maxRecDepth 100000 in
theorem ch_isInMemory (l : Launch) (p1 : Int32) : Met l yX0_isInMemory (.code yX0_isInMemory cX0_isInMemory 1 (some .boolean) :: gBIG) ({ frames := 0, cells := 0, slots := 0, locals := 0 }) (va_Pc [.int p1] (fun _ => True)) (QcRead (h_isInMemory p1)) 0 0 (fun _ => False) := by
  refine Met.ofW (cc := cX0_isInMemory) (maxL := 1) (ret := (some .boolean)) (by decide) rfl ?_
  intro p e s m args below meth c s₁ B hml hv
  obtain ⟨rfl, -⟩ := hv
  have hx := B.exec
  have hb := B.bytes
  have hr := B.returns
  have hts : ∀ w ∈ gBIG, w.before _ s = true := fun w h => atoms_spec (ws := (.code yX0_isInMemory cX0_isInMemory 1 (some .boolean) :: gBIG)) B.pre w (List.mem_cons_of_mem _ h)
  have hown : s.vm.findClass "PagedHart" = some m.cls := findClass_of_methodNamed B.named
  have hlocks := B.notSynchronized
  have hl := lv_entry ([.int p1]) (n := 1) (Nat.le_of_ble_eq_true rfl)
  rw [lg_entry_eq]
  generalize (lg_sl ([.int p1]) ++ List.replicate (1 - (lg_sl ([.int p1])).length) Slot.unset).toArray = ls at hl ⊢
  have hl : lv_has ls 1 [(0, .int p1)] := hl
  refine lv_iload_n hx hb dX0_isInMemory_0 rfl (lv_at hl 0 rfl) ?_
  refine lv_if_lt (tgt := 14) hx hb dX0_isInMemory_1 (by decide) (fun c1 => ?_) (fun c1 => ?_)
  · refine lv_iconst (v := 0) hx hb dX0_isInMemory_14 (by decide) ?_
    exact W.zret (v := 0) hx hb hr rfl (fun t ht hW => ⟨jq (by exact (((if_pos c1).trans rfl)).symm), ht⟩) (fun q h => by cases h) dX0_isInMemory_15
  · refine lv_iload_n hx hb dX0_isInMemory_4 rfl (lv_at hl 0 rfl) ?_
    refine lv_ldc (v := 262144) hx hb hown (hts _ mC_0_72) dX0_isInMemory_5 ?_
    refine lv_icmp_ge (tgt := 14) hx hb dX0_isInMemory_7 (by decide) (fun c2 => ?_) (fun c2 => ?_)
    · refine lv_iconst (v := 0) hx hb dX0_isInMemory_14 (by decide) ?_
      exact W.zret (v := 0) hx hb hr rfl (fun t ht hW => ⟨jq (by exact (((if_neg c1).trans ((if_pos c2).trans rfl))).symm), ht⟩) (fun q h => by cases h) dX0_isInMemory_15
    · refine lv_iconst (v := 1) hx hb dX0_isInMemory_10 (by decide) ?_
      refine lv_goto (tgt := 15) hx hb dX0_isInMemory_11 (by decide) ?_
      exact W.zret (v := 1) hx hb hr rfl (fun t ht hW => ⟨jq (by exact (((if_neg c1).trans ((if_neg c2).trans rfl))).symm), ht⟩) (fun q h => by cases h) dX0_isInMemory_15
theorem h_mem_of {a : Int32} (h : ¬ h_isInMemory a = 0) : ∃ j : Nat, j < 262144 ∧ a = nI j := by
  unfold h_isInMemory at h
  by_cases h1 : a < 0
  · rw [if_pos h1] at h; exact absurd rfl h
  · rw [if_neg h1] at h
    by_cases h2 : (262144 : Int32) ≤ a
    · rw [if_pos h2] at h; exact absurd rfl h
    · obtain ⟨j, hj, rfl⟩ := nI_of h1
      exact ⟨j, Nat.lt_of_not_le (fun q => h2 (nI_le (a := 262144) q hj)), rfl⟩
theorem h_ush2 {j : Nat} (h : j < 262144) : jush (nI j) 2 = nI (j / 4) := pk_ushrN (n := j) (by omega) 2 2 (by decide)
theorem h_in1 {a : Int32} (h : ¬ h_isInMemory a = 0) : vp_in (jush a (2 : Int32)) 65536 := by
  obtain ⟨j, hj, rfl⟩ := h_mem_of h
  rw [h_ush2 hj]
  exact vp_in_nI (by omega) (by decide)

def h_isWord (p1 : Int32) : Int32 :=
  let x1 : Int32 := h_isInMemory p1
  if x1 = 0 then
    (0 : Int32)
  else
    if (p1 &&& (3 : Int32)) = 0 then
      (1 : Int32)
    else
      (0 : Int32)
set_option maxHeartbeats 4000000 in
set_option maxRecDepth 100000 in
theorem ch_isWord (l : Launch) (p1 : Int32) : Met l yX0_isWord (.code yX0_isWord cX0_isWord 1 (some .boolean) :: gBIG) ({ frames := 1, cells := 0, slots := 0, locals := 20 }) (va_Pc [.int p1] (fun _ => True)) (QcRead (h_isWord p1)) 0 0 (fun _ => False) := by
  refine Met.ofW (cc := cX0_isWord) (maxL := 1) (ret := (some .boolean)) (by decide) rfl ?_
  intro p e s m args below meth c s₁ B hml hv
  obtain ⟨rfl, -⟩ := hv
  have hx := B.exec
  have hb := B.bytes
  have hr := B.returns
  have hts : ∀ w ∈ gBIG, w.before _ s = true := fun w h => atoms_spec (ws := (.code yX0_isWord cX0_isWord 1 (some .boolean) :: gBIG)) B.pre w (List.mem_cons_of_mem _ h)
  have hown : s.vm.findClass "PagedHart" = some m.cls := findClass_of_methodNamed B.named
  have hlocks := B.notSynchronized
  have hl := lv_entry ([.int p1]) (n := 1) (Nat.le_of_ble_eq_true rfl)
  rw [lg_entry_eq]
  generalize (lg_sl ([.int p1]) ++ List.replicate (1 - (lg_sl ([.int p1])).length) Slot.unset).toArray = ls at hl ⊢
  have hl : lv_has ls 1 [(0, .int p1)] := hl
  refine lv_iload_n hx hb dX0_isWord_0 rfl (lv_at hl 0 rfl) ?_
  refine W.callR (W.runS (As := [.int p1]) (rest := []) ⟨hx, hb, hml, hown, hts⟩ (ch_isInMemory l p1) (cwS 1 hts (gS mL_0_73 mS_0_isInMemory mN_0 mB_0_isInMemory) rfl rfl rfl (by decide +kernel) ⟨Nat.le_of_ble_eq_true rfl, Nat.le_of_ble_eq_true rfl⟩) ⟨jblind, fun _ _ _ => ⟨rfl, trivial⟩⟩ rfl rfl hl.1 rfl (lv_room (Nat.le_of_ble_eq_true rfl)) dX0_isWord_1 ⟨Nat.zero_le _, Nat.zero_le _⟩) ?_
  refine W.eq (g2 := F0 m 4 ls (.int (h_isInMemory p1) :: [])) rfl ?_
  refine lv_topi (fun x1 ex1 => ?_)
  refine lv_if_eq (tgt := 17) hx hb dX0_isWord_4 (by decide) (fun c2 => ?_) (fun c2 => ?_)
  · refine lv_iconst (v := 0) hx hb dX0_isWord_17 (by decide) ?_
    exact W.zret (v := 0) hx hb hr rfl (fun t ht hW => ⟨jq (by subst ex1; exact (((if_pos c2).trans rfl)).symm), ht⟩) (fun q h => by cases h) dX0_isWord_18
  · refine lv_iload_n hx hb dX0_isWord_7 rfl (lv_at hl 0 rfl) ?_
    refine lv_iconst (v := 3) hx hb dX0_isWord_8 (by decide) ?_
    refine lv_iand hx hb dX0_isWord_9 ?_
    refine lv_if_ne (tgt := 17) hx hb dX0_isWord_10 (by decide) (fun c3 => ?_) (fun c3 => ?_)
    · refine lv_iconst (v := 0) hx hb dX0_isWord_17 (by decide) ?_
      exact W.zret (v := 0) hx hb hr rfl (fun t ht hW => ⟨jq (by subst ex1; exact (((if_neg c2).trans ((if_neg c3).trans rfl))).symm), ht⟩) (fun q h => by cases h) dX0_isWord_18
    · refine lv_iconst (v := 1) hx hb dX0_isWord_13 (by decide) ?_
      refine lv_goto (tgt := 18) hx hb dX0_isWord_14 (by decide) ?_
      exact W.zret (v := 1) hx hb hr rfl (fun t ht hW => ⟨jq (by subst ex1; exact (((if_neg c2).trans ((if_pos c3).trans rfl))).symm), ht⟩) (fun q h => by cases h) dX0_isWord_18
theorem h_wordM {a : Int32} (h : ¬ h_isWord a = 0) : ¬ h_isInMemory a = 0 := by
  intro q
  apply h
  unfold h_isWord
  dsimp only
  rw [if_pos q]
theorem h_inW {a : Int32} (h : ¬ h_isWord a = 0) : vp_in (jush a (2 : Int32)) 65536 := h_in1 (h_wordM h)
theorem h_in4 {a : Int32} (k : Nat) (h1 : ¬ h_isWord a = 0) (h2 : ¬ h_isWord (a + (12 : Int32)) = 0) (hk : k < 4) : vp_in (jush a (2 : Int32) + nI k) 65536 := by
  obtain ⟨j, hj, rfl⟩ := h_mem_of (h_wordM h1)
  obtain ⟨i, hi, e⟩ := h_mem_of (h_wordM h2)
  have e2 : nI (j + 12) = nI i := (nI_add j 12).symm.trans e
  have e3 : j + 12 = i := (nI_eq (by omega) (by omega)).mp e2
  rw [h_ush2 hj, nI_add]
  exact vp_in_nI (by omega) (by decide)
theorem h_inR {i : Int32} (h1 : ¬ i < 0) (h2 : i ≤ (33 : Int32)) (h3 : ¬ i = (32 : Int32)) (h4 : ¬ i = (33 : Int32)) : vp_in i 32 := by
  obtain ⟨j, hj, rfl⟩ := nI_of h1
  have a2 : j ≤ 33 := (nI_leI hj (by decide)).mp h2
  have a3 : ¬ j = 32 := fun q => h3 (by rw [q]; rfl)
  have a4 : ¬ j = 33 := fun q => h4 (by rw [q]; rfl)
  exact vp_in_nI (by omega) (by decide)

def h_frameOf (p1 : Int32) : Int32 :=
  ((jush p1 (10 : Int32)) <<< ((12 : Int32) &&& 31))
set_option maxHeartbeats 4000000 in
set_option maxRecDepth 100000 in
theorem ch_frameOf (l : Launch) (p1 : Int32) : Met l yX0_frameOf (.code yX0_frameOf cX0_frameOf 1 (some .int) :: gBIG) ({ frames := 0, cells := 0, slots := 0, locals := 0 }) (va_Pc [.int p1] (fun _ => True)) (QcRead (h_frameOf p1)) 0 0 (fun _ => False) := by
  refine Met.ofW (cc := cX0_frameOf) (maxL := 1) (ret := (some .int)) (by decide) rfl ?_
  intro p e s m args below meth c s₁ B hml hv
  obtain ⟨rfl, -⟩ := hv
  have hx := B.exec
  have hb := B.bytes
  have hr := B.returns
  have hts : ∀ w ∈ gBIG, w.before _ s = true := fun w h => atoms_spec (ws := (.code yX0_frameOf cX0_frameOf 1 (some .int) :: gBIG)) B.pre w (List.mem_cons_of_mem _ h)
  have hown : s.vm.findClass "PagedHart" = some m.cls := findClass_of_methodNamed B.named
  have hlocks := B.notSynchronized
  have hl := lv_entry ([.int p1]) (n := 1) (Nat.le_of_ble_eq_true rfl)
  rw [lg_entry_eq]
  generalize (lg_sl ([.int p1]) ++ List.replicate (1 - (lg_sl ([.int p1])).length) Slot.unset).toArray = ls at hl ⊢
  have hl : lv_has ls 1 [(0, .int p1)] := hl
  refine lv_iload_n hx hb dX0_frameOf_0 rfl (lv_at hl 0 rfl) ?_
  refine lv_bipush (v := 10) hx hb dX0_frameOf_1 (by decide) ?_
  refine lv_iushr (v := jush p1 (10 : Int32)) hx hb dX0_frameOf_3 rfl ?_
  refine lv_bipush (v := 12) hx hb dX0_frameOf_4 (by decide) ?_
  refine lv_ishl hx hb dX0_frameOf_6 ?_
  exact W.iret (v := (jush p1 (10 : Int32)) <<< ((12 : Int32) &&& 31)) hx hb hr (fun t ht hW => ⟨jq (by exact (rfl).symm), ht⟩) (fun q h => by cases h) dX0_frameOf_7

def h_misalignedCause (p1 : Int32) : Int32 :=
  if p1 = 0 then
    (0 : Int32)
  else
    if p1 = (1 : Int32) then
      (4 : Int32)
    else
      (6 : Int32)
set_option maxHeartbeats 4000000 in
set_option maxRecDepth 100000 in
theorem ch_misalignedCause (l : Launch) (p1 : Int32) : Met l yX0_misalignedCause (.code yX0_misalignedCause cX0_misalignedCause 1 (some .int) :: gBIG) ({ frames := 0, cells := 0, slots := 0, locals := 0 }) (va_Pc [.int p1] (fun _ => True)) (QcRead (h_misalignedCause p1)) 0 0 (fun _ => False) := by
  refine Met.ofW (cc := cX0_misalignedCause) (maxL := 1) (ret := (some .int)) (by decide) rfl ?_
  intro p e s m args below meth c s₁ B hml hv
  obtain ⟨rfl, -⟩ := hv
  have hx := B.exec
  have hb := B.bytes
  have hr := B.returns
  have hts : ∀ w ∈ gBIG, w.before _ s = true := fun w h => atoms_spec (ws := (.code yX0_misalignedCause cX0_misalignedCause 1 (some .int) :: gBIG)) B.pre w (List.mem_cons_of_mem _ h)
  have hown : s.vm.findClass "PagedHart" = some m.cls := findClass_of_methodNamed B.named
  have hlocks := B.notSynchronized
  have hl := lv_entry ([.int p1]) (n := 1) (Nat.le_of_ble_eq_true rfl)
  rw [lg_entry_eq]
  generalize (lg_sl ([.int p1]) ++ List.replicate (1 - (lg_sl ([.int p1])).length) Slot.unset).toArray = ls at hl ⊢
  have hl : lv_has ls 1 [(0, .int p1)] := hl
  refine lv_iload_n hx hb dX0_misalignedCause_0 rfl (lv_at hl 0 rfl) ?_
  refine lv_if_ne (tgt := 6) hx hb dX0_misalignedCause_1 (by decide) (fun c1 => ?_) (fun c1 => ?_)
  · refine lv_iload_n hx hb dX0_misalignedCause_6 rfl (lv_at hl 0 rfl) ?_
    refine lv_iconst (v := 1) hx hb dX0_misalignedCause_7 (by decide) ?_
    refine lv_icmp_ne (tgt := 15) hx hb dX0_misalignedCause_8 (by decide) (fun c2 => ?_) (fun c2 => ?_)
    · refine lv_bipush (v := 6) hx hb dX0_misalignedCause_15 (by decide) ?_
      exact W.iret (v := 6) hx hb hr (fun t ht hW => ⟨jq (by exact (((if_neg c1).trans ((if_neg c2).trans rfl))).symm), ht⟩) (fun q h => by cases h) dX0_misalignedCause_17
    · refine lv_iconst (v := 4) hx hb dX0_misalignedCause_11 (by decide) ?_
      refine lv_goto (tgt := 17) hx hb dX0_misalignedCause_12 (by decide) ?_
      exact W.iret (v := 4) hx hb hr (fun t ht hW => ⟨jq (by exact (((if_neg c1).trans ((if_pos c2).trans rfl))).symm), ht⟩) (fun q h => by cases h) dX0_misalignedCause_17
  · refine lv_iconst (v := 0) hx hb dX0_misalignedCause_4 (by decide) ?_
    exact W.iret (v := 0) hx hb hr (fun t ht hW => ⟨jq (by exact (((if_pos c1).trans rfl)).symm), ht⟩) (fun q h => by cases h) dX0_misalignedCause_5

def h_accessCause (p1 : Int32) : Int32 :=
  if p1 = 0 then
    (1 : Int32)
  else
    if p1 = (1 : Int32) then
      (5 : Int32)
    else
      (7 : Int32)
set_option maxHeartbeats 4000000 in
set_option maxRecDepth 100000 in
theorem ch_accessCause (l : Launch) (p1 : Int32) : Met l yX0_accessCause (.code yX0_accessCause cX0_accessCause 1 (some .int) :: gBIG) ({ frames := 0, cells := 0, slots := 0, locals := 0 }) (va_Pc [.int p1] (fun _ => True)) (QcRead (h_accessCause p1)) 0 0 (fun _ => False) := by
  refine Met.ofW (cc := cX0_accessCause) (maxL := 1) (ret := (some .int)) (by decide) rfl ?_
  intro p e s m args below meth c s₁ B hml hv
  obtain ⟨rfl, -⟩ := hv
  have hx := B.exec
  have hb := B.bytes
  have hr := B.returns
  have hts : ∀ w ∈ gBIG, w.before _ s = true := fun w h => atoms_spec (ws := (.code yX0_accessCause cX0_accessCause 1 (some .int) :: gBIG)) B.pre w (List.mem_cons_of_mem _ h)
  have hown : s.vm.findClass "PagedHart" = some m.cls := findClass_of_methodNamed B.named
  have hlocks := B.notSynchronized
  have hl := lv_entry ([.int p1]) (n := 1) (Nat.le_of_ble_eq_true rfl)
  rw [lg_entry_eq]
  generalize (lg_sl ([.int p1]) ++ List.replicate (1 - (lg_sl ([.int p1])).length) Slot.unset).toArray = ls at hl ⊢
  have hl : lv_has ls 1 [(0, .int p1)] := hl
  refine lv_iload_n hx hb dX0_accessCause_0 rfl (lv_at hl 0 rfl) ?_
  refine lv_if_ne (tgt := 6) hx hb dX0_accessCause_1 (by decide) (fun c1 => ?_) (fun c1 => ?_)
  · refine lv_iload_n hx hb dX0_accessCause_6 rfl (lv_at hl 0 rfl) ?_
    refine lv_iconst (v := 1) hx hb dX0_accessCause_7 (by decide) ?_
    refine lv_icmp_ne (tgt := 15) hx hb dX0_accessCause_8 (by decide) (fun c2 => ?_) (fun c2 => ?_)
    · refine lv_bipush (v := 7) hx hb dX0_accessCause_15 (by decide) ?_
      exact W.iret (v := 7) hx hb hr (fun t ht hW => ⟨jq (by exact (((if_neg c1).trans ((if_neg c2).trans rfl))).symm), ht⟩) (fun q h => by cases h) dX0_accessCause_17
    · refine lv_iconst (v := 5) hx hb dX0_accessCause_11 (by decide) ?_
      refine lv_goto (tgt := 17) hx hb dX0_accessCause_12 (by decide) ?_
      exact W.iret (v := 5) hx hb hr (fun t ht hW => ⟨jq (by exact (((if_neg c1).trans ((if_pos c2).trans rfl))).symm), ht⟩) (fun q h => by cases h) dX0_accessCause_17
  · refine lv_iconst (v := 1) hx hb dX0_accessCause_4 (by decide) ?_
    exact W.iret (v := 1) hx hb hr (fun t ht hW => ⟨jq (by exact (((if_pos c1).trans rfl)).symm), ht⟩) (fun q h => by cases h) dX0_accessCause_5

def h_pageCause (p1 : Int32) : Int32 :=
  if p1 = 0 then
    (12 : Int32)
  else
    if p1 = (1 : Int32) then
      (13 : Int32)
    else
      (15 : Int32)
set_option maxHeartbeats 4000000 in
set_option maxRecDepth 100000 in
theorem ch_pageCause (l : Launch) (p1 : Int32) : Met l yX0_pageCause (.code yX0_pageCause cX0_pageCause 1 (some .int) :: gBIG) ({ frames := 0, cells := 0, slots := 0, locals := 0 }) (va_Pc [.int p1] (fun _ => True)) (QcRead (h_pageCause p1)) 0 0 (fun _ => False) := by
  refine Met.ofW (cc := cX0_pageCause) (maxL := 1) (ret := (some .int)) (by decide) rfl ?_
  intro p e s m args below meth c s₁ B hml hv
  obtain ⟨rfl, -⟩ := hv
  have hx := B.exec
  have hb := B.bytes
  have hr := B.returns
  have hts : ∀ w ∈ gBIG, w.before _ s = true := fun w h => atoms_spec (ws := (.code yX0_pageCause cX0_pageCause 1 (some .int) :: gBIG)) B.pre w (List.mem_cons_of_mem _ h)
  have hown : s.vm.findClass "PagedHart" = some m.cls := findClass_of_methodNamed B.named
  have hlocks := B.notSynchronized
  have hl := lv_entry ([.int p1]) (n := 1) (Nat.le_of_ble_eq_true rfl)
  rw [lg_entry_eq]
  generalize (lg_sl ([.int p1]) ++ List.replicate (1 - (lg_sl ([.int p1])).length) Slot.unset).toArray = ls at hl ⊢
  have hl : lv_has ls 1 [(0, .int p1)] := hl
  refine lv_iload_n hx hb dX0_pageCause_0 rfl (lv_at hl 0 rfl) ?_
  refine lv_if_ne (tgt := 7) hx hb dX0_pageCause_1 (by decide) (fun c1 => ?_) (fun c1 => ?_)
  · refine lv_iload_n hx hb dX0_pageCause_7 rfl (lv_at hl 0 rfl) ?_
    refine lv_iconst (v := 1) hx hb dX0_pageCause_8 (by decide) ?_
    refine lv_icmp_ne (tgt := 17) hx hb dX0_pageCause_9 (by decide) (fun c2 => ?_) (fun c2 => ?_)
    · refine lv_bipush (v := 15) hx hb dX0_pageCause_17 (by decide) ?_
      exact W.iret (v := 15) hx hb hr (fun t ht hW => ⟨jq (by exact (((if_neg c1).trans ((if_neg c2).trans rfl))).symm), ht⟩) (fun q h => by cases h) dX0_pageCause_19
    · refine lv_bipush (v := 13) hx hb dX0_pageCause_12 (by decide) ?_
      refine lv_goto (tgt := 19) hx hb dX0_pageCause_14 (by decide) ?_
      exact W.iret (v := 13) hx hb hr (fun t ht hW => ⟨jq (by exact (((if_neg c1).trans ((if_pos c2).trans rfl))).symm), ht⟩) (fun q h => by cases h) dX0_pageCause_19
  · refine lv_bipush (v := 12) hx hb dX0_pageCause_4 (by decide) ?_
    exact W.iret (v := 12) hx hb hr (fun t ht hW => ⟨jq (by exact (((if_pos c1).trans rfl)).symm), ht⟩) (fun q h => by cases h) dX0_pageCause_6
theorem h_nA (b : Int32) : ¬ (0 : Int32) ≤ ((-1) : Int32) - h_accessCause b := by
  unfold h_accessCause
  (repeat' split) <;> decide
theorem h_nP (b : Int32) : ¬ (0 : Int32) ≤ ((-1) : Int32) - h_pageCause b := by
  unfold h_pageCause
  (repeat' split) <;> decide
theorem h_nM (b : Int32) : ¬ (0 : Int32) ≤ ((-1) : Int32) - h_misalignedCause b := by
  unfold h_misalignedCause
  (repeat' split) <;> decide

def h_fOf (p1 : Int32) : Int32 :=
  ((jush p1 (12 : Int32)) &&& (7 : Int32))
set_option maxHeartbeats 4000000 in
set_option maxRecDepth 100000 in
theorem ch_fOf (l : Launch) (p1 : Int32) : Met l yX0_fOf (.code yX0_fOf cX0_fOf 1 (some .int) :: gBIG) ({ frames := 0, cells := 0, slots := 0, locals := 0 }) (va_Pc [.int p1] (fun _ => True)) (QcRead (h_fOf p1)) 0 0 (fun _ => False) := by
  refine Met.ofW (cc := cX0_fOf) (maxL := 1) (ret := (some .int)) (by decide) rfl ?_
  intro p e s m args below meth c s₁ B hml hv
  obtain ⟨rfl, -⟩ := hv
  have hx := B.exec
  have hb := B.bytes
  have hr := B.returns
  have hts : ∀ w ∈ gBIG, w.before _ s = true := fun w h => atoms_spec (ws := (.code yX0_fOf cX0_fOf 1 (some .int) :: gBIG)) B.pre w (List.mem_cons_of_mem _ h)
  have hown : s.vm.findClass "PagedHart" = some m.cls := findClass_of_methodNamed B.named
  have hlocks := B.notSynchronized
  have hl := lv_entry ([.int p1]) (n := 1) (Nat.le_of_ble_eq_true rfl)
  rw [lg_entry_eq]
  generalize (lg_sl ([.int p1]) ++ List.replicate (1 - (lg_sl ([.int p1])).length) Slot.unset).toArray = ls at hl ⊢
  have hl : lv_has ls 1 [(0, .int p1)] := hl
  refine lv_iload_n hx hb dX0_fOf_0 rfl (lv_at hl 0 rfl) ?_
  refine lv_bipush (v := 12) hx hb dX0_fOf_1 (by decide) ?_
  refine lv_iushr (v := jush p1 (12 : Int32)) hx hb dX0_fOf_3 rfl ?_
  refine lv_bipush (v := 7) hx hb dX0_fOf_4 (by decide) ?_
  refine lv_iand hx hb dX0_fOf_6 ?_
  exact W.iret (v := (jush p1 (12 : Int32)) &&& (7 : Int32)) hx hb hr (fun t ht hW => ⟨jq (by exact (rfl).symm), ht⟩) (fun q h => by cases h) dX0_fOf_7

def h_gOf (p1 : Int32) : Int32 :=
  (jush p1 (25 : Int32))
set_option maxHeartbeats 4000000 in
set_option maxRecDepth 100000 in
theorem ch_gOf (l : Launch) (p1 : Int32) : Met l yX0_gOf (.code yX0_gOf cX0_gOf 1 (some .int) :: gBIG) ({ frames := 0, cells := 0, slots := 0, locals := 0 }) (va_Pc [.int p1] (fun _ => True)) (QcRead (h_gOf p1)) 0 0 (fun _ => False) := by
  refine Met.ofW (cc := cX0_gOf) (maxL := 1) (ret := (some .int)) (by decide) rfl ?_
  intro p e s m args below meth c s₁ B hml hv
  obtain ⟨rfl, -⟩ := hv
  have hx := B.exec
  have hb := B.bytes
  have hr := B.returns
  have hts : ∀ w ∈ gBIG, w.before _ s = true := fun w h => atoms_spec (ws := (.code yX0_gOf cX0_gOf 1 (some .int) :: gBIG)) B.pre w (List.mem_cons_of_mem _ h)
  have hown : s.vm.findClass "PagedHart" = some m.cls := findClass_of_methodNamed B.named
  have hlocks := B.notSynchronized
  have hl := lv_entry ([.int p1]) (n := 1) (Nat.le_of_ble_eq_true rfl)
  rw [lg_entry_eq]
  generalize (lg_sl ([.int p1]) ++ List.replicate (1 - (lg_sl ([.int p1])).length) Slot.unset).toArray = ls at hl ⊢
  have hl : lv_has ls 1 [(0, .int p1)] := hl
  refine lv_iload_n hx hb dX0_gOf_0 rfl (lv_at hl 0 rfl) ?_
  refine lv_bipush (v := 25) hx hb dX0_gOf_1 (by decide) ?_
  refine lv_iushr (v := jush p1 (25 : Int32)) hx hb dX0_gOf_3 rfl ?_
  exact W.iret (v := jush p1 (25 : Int32)) hx hb hr (fun t ht hW => ⟨jq (by exact (rfl).symm), ht⟩) (fun q h => by cases h) dX0_gOf_4

def h_iOf (p1 : Int32) : Int32 :=
  (p1 >>> ((20 : Int32) &&& 31))
set_option maxHeartbeats 4000000 in
set_option maxRecDepth 100000 in
theorem ch_iOf (l : Launch) (p1 : Int32) : Met l yX0_iOf (.code yX0_iOf cX0_iOf 1 (some .int) :: gBIG) ({ frames := 0, cells := 0, slots := 0, locals := 0 }) (va_Pc [.int p1] (fun _ => True)) (QcRead (h_iOf p1)) 0 0 (fun _ => False) := by
  refine Met.ofW (cc := cX0_iOf) (maxL := 1) (ret := (some .int)) (by decide) rfl ?_
  intro p e s m args below meth c s₁ B hml hv
  obtain ⟨rfl, -⟩ := hv
  have hx := B.exec
  have hb := B.bytes
  have hr := B.returns
  have hts : ∀ w ∈ gBIG, w.before _ s = true := fun w h => atoms_spec (ws := (.code yX0_iOf cX0_iOf 1 (some .int) :: gBIG)) B.pre w (List.mem_cons_of_mem _ h)
  have hown : s.vm.findClass "PagedHart" = some m.cls := findClass_of_methodNamed B.named
  have hlocks := B.notSynchronized
  have hl := lv_entry ([.int p1]) (n := 1) (Nat.le_of_ble_eq_true rfl)
  rw [lg_entry_eq]
  generalize (lg_sl ([.int p1]) ++ List.replicate (1 - (lg_sl ([.int p1])).length) Slot.unset).toArray = ls at hl ⊢
  have hl : lv_has ls 1 [(0, .int p1)] := hl
  refine lv_iload_n hx hb dX0_iOf_0 rfl (lv_at hl 0 rfl) ?_
  refine lv_bipush (v := 20) hx hb dX0_iOf_1 (by decide) ?_
  refine lv_ishr hx hb dX0_iOf_3 ?_
  exact W.iret (v := p1 >>> ((20 : Int32) &&& 31)) hx hb hr (fun t ht hW => ⟨jq (by exact (rfl).symm), ht⟩) (fun q h => by cases h) dX0_iOf_4

def h_sOf (p1 : Int32) : Int32 :=
  let x1 : Int32 := ((p1 >>> ((25 : Int32) &&& 31)) <<< ((5 : Int32) &&& 31)) ||| ((jush p1 (7 : Int32)) &&& (31 : Int32))
  x1
set_option maxHeartbeats 4000000 in
set_option maxRecDepth 100000 in
theorem ch_sOf (l : Launch) (p1 : Int32) : Met l yX0_sOf (.code yX0_sOf cX0_sOf 1 (some .int) :: gBIG) ({ frames := 0, cells := 0, slots := 0, locals := 0 }) (va_Pc [.int p1] (fun _ => True)) (QcRead (h_sOf p1)) 0 0 (fun _ => False) := by
  refine Met.ofW (cc := cX0_sOf) (maxL := 1) (ret := (some .int)) (by decide) rfl ?_
  intro p e s m args below meth c s₁ B hml hv
  obtain ⟨rfl, -⟩ := hv
  have hx := B.exec
  have hb := B.bytes
  have hr := B.returns
  have hts : ∀ w ∈ gBIG, w.before _ s = true := fun w h => atoms_spec (ws := (.code yX0_sOf cX0_sOf 1 (some .int) :: gBIG)) B.pre w (List.mem_cons_of_mem _ h)
  have hown : s.vm.findClass "PagedHart" = some m.cls := findClass_of_methodNamed B.named
  have hlocks := B.notSynchronized
  have hl := lv_entry ([.int p1]) (n := 1) (Nat.le_of_ble_eq_true rfl)
  rw [lg_entry_eq]
  generalize (lg_sl ([.int p1]) ++ List.replicate (1 - (lg_sl ([.int p1])).length) Slot.unset).toArray = ls at hl ⊢
  have hl : lv_has ls 1 [(0, .int p1)] := hl
  refine lv_iload_n hx hb dX0_sOf_0 rfl (lv_at hl 0 rfl) ?_
  refine lv_bipush (v := 25) hx hb dX0_sOf_1 (by decide) ?_
  refine lv_ishr hx hb dX0_sOf_3 ?_
  refine lv_iconst (v := 5) hx hb dX0_sOf_4 (by decide) ?_
  refine lv_ishl hx hb dX0_sOf_5 ?_
  refine lv_iload_n hx hb dX0_sOf_6 rfl (lv_at hl 0 rfl) ?_
  refine lv_bipush (v := 7) hx hb dX0_sOf_7 (by decide) ?_
  refine lv_iushr (v := jush p1 (7 : Int32)) hx hb dX0_sOf_9 rfl ?_
  refine lv_bipush (v := 31) hx hb dX0_sOf_10 (by decide) ?_
  refine lv_iand hx hb dX0_sOf_12 ?_
  refine lv_ior hx hb dX0_sOf_13 ?_
  refine lv_topi (fun x1 ex1 => ?_)
  exact W.iret (v := x1) hx hb hr (fun t ht hW => ⟨jq (by subst ex1; exact (rfl).symm), ht⟩) (fun q h => by cases h) dX0_sOf_14

def h_uOf (p1 : Int32) : Int32 :=
  (p1 &&& ((-4096) : Int32))
set_option maxHeartbeats 4000000 in
set_option maxRecDepth 100000 in
theorem ch_uOf (l : Launch) (p1 : Int32) : Met l yX0_uOf (.code yX0_uOf cX0_uOf 1 (some .int) :: gBIG) ({ frames := 0, cells := 0, slots := 0, locals := 0 }) (va_Pc [.int p1] (fun _ => True)) (QcRead (h_uOf p1)) 0 0 (fun _ => False) := by
  refine Met.ofW (cc := cX0_uOf) (maxL := 1) (ret := (some .int)) (by decide) rfl ?_
  intro p e s m args below meth c s₁ B hml hv
  obtain ⟨rfl, -⟩ := hv
  have hx := B.exec
  have hb := B.bytes
  have hr := B.returns
  have hts : ∀ w ∈ gBIG, w.before _ s = true := fun w h => atoms_spec (ws := (.code yX0_uOf cX0_uOf 1 (some .int) :: gBIG)) B.pre w (List.mem_cons_of_mem _ h)
  have hown : s.vm.findClass "PagedHart" = some m.cls := findClass_of_methodNamed B.named
  have hlocks := B.notSynchronized
  have hl := lv_entry ([.int p1]) (n := 1) (Nat.le_of_ble_eq_true rfl)
  rw [lg_entry_eq]
  generalize (lg_sl ([.int p1]) ++ List.replicate (1 - (lg_sl ([.int p1])).length) Slot.unset).toArray = ls at hl ⊢
  have hl : lv_has ls 1 [(0, .int p1)] := hl
  refine lv_iload_n hx hb dX0_uOf_0 rfl (lv_at hl 0 rfl) ?_
  refine lv_sipush (v := (-4096)) hx hb dX0_uOf_1 (by decide) ?_
  refine lv_iand hx hb dX0_uOf_4 ?_
  exact W.iret (v := p1 &&& ((-4096) : Int32)) hx hb hr (fun t ht hW => ⟨jq (by exact (rfl).symm), ht⟩) (fun q h => by cases h) dX0_uOf_5

def h_branchDistance (p1 : Int32) : Int32 :=
  let x1 : Int32 := ((p1 >>> ((31 : Int32) &&& 31)) <<< ((12 : Int32) &&& 31)) ||| (((jush p1 (7 : Int32)) &&& (1 : Int32)) <<< ((11 : Int32) &&& 31))
  let x2 : Int32 := x1 ||| (((jush p1 (25 : Int32)) &&& (63 : Int32)) <<< ((5 : Int32) &&& 31))
  let x3 : Int32 := x2 ||| (((jush p1 (8 : Int32)) &&& (15 : Int32)) <<< ((1 : Int32) &&& 31))
  x3
set_option maxHeartbeats 4000000 in
set_option maxRecDepth 100000 in
theorem ch_branchDistance (l : Launch) (p1 : Int32) : Met l yX0_branchDistance (.code yX0_branchDistance cX0_branchDistance 1 (some .int) :: gBIG) ({ frames := 0, cells := 0, slots := 0, locals := 0 }) (va_Pc [.int p1] (fun _ => True)) (QcRead (h_branchDistance p1)) 0 0 (fun _ => False) := by
  refine Met.ofW (cc := cX0_branchDistance) (maxL := 1) (ret := (some .int)) (by decide) rfl ?_
  intro p e s m args below meth c s₁ B hml hv
  obtain ⟨rfl, -⟩ := hv
  have hx := B.exec
  have hb := B.bytes
  have hr := B.returns
  have hts : ∀ w ∈ gBIG, w.before _ s = true := fun w h => atoms_spec (ws := (.code yX0_branchDistance cX0_branchDistance 1 (some .int) :: gBIG)) B.pre w (List.mem_cons_of_mem _ h)
  have hown : s.vm.findClass "PagedHart" = some m.cls := findClass_of_methodNamed B.named
  have hlocks := B.notSynchronized
  have hl := lv_entry ([.int p1]) (n := 1) (Nat.le_of_ble_eq_true rfl)
  rw [lg_entry_eq]
  generalize (lg_sl ([.int p1]) ++ List.replicate (1 - (lg_sl ([.int p1])).length) Slot.unset).toArray = ls at hl ⊢
  have hl : lv_has ls 1 [(0, .int p1)] := hl
  refine lv_iload_n hx hb dX0_branchDistance_0 rfl (lv_at hl 0 rfl) ?_
  refine lv_bipush (v := 31) hx hb dX0_branchDistance_1 (by decide) ?_
  refine lv_ishr hx hb dX0_branchDistance_3 ?_
  refine lv_bipush (v := 12) hx hb dX0_branchDistance_4 (by decide) ?_
  refine lv_ishl hx hb dX0_branchDistance_6 ?_
  refine lv_iload_n hx hb dX0_branchDistance_7 rfl (lv_at hl 0 rfl) ?_
  refine lv_bipush (v := 7) hx hb dX0_branchDistance_8 (by decide) ?_
  refine lv_iushr (v := jush p1 (7 : Int32)) hx hb dX0_branchDistance_10 rfl ?_
  refine lv_iconst (v := 1) hx hb dX0_branchDistance_11 (by decide) ?_
  refine lv_iand hx hb dX0_branchDistance_12 ?_
  refine lv_bipush (v := 11) hx hb dX0_branchDistance_13 (by decide) ?_
  refine lv_ishl hx hb dX0_branchDistance_15 ?_
  refine lv_ior hx hb dX0_branchDistance_16 ?_
  refine lv_topi (fun x1 ex1 => ?_)
  refine lv_iload_n hx hb dX0_branchDistance_17 rfl (lv_at hl 0 rfl) ?_
  refine lv_bipush (v := 25) hx hb dX0_branchDistance_18 (by decide) ?_
  refine lv_iushr (v := jush p1 (25 : Int32)) hx hb dX0_branchDistance_20 rfl ?_
  refine lv_bipush (v := 63) hx hb dX0_branchDistance_21 (by decide) ?_
  refine lv_iand hx hb dX0_branchDistance_23 ?_
  refine lv_iconst (v := 5) hx hb dX0_branchDistance_24 (by decide) ?_
  refine lv_ishl hx hb dX0_branchDistance_25 ?_
  refine lv_ior hx hb dX0_branchDistance_26 ?_
  refine lv_topi (fun x2 ex2 => ?_)
  refine lv_iload_n hx hb dX0_branchDistance_27 rfl (lv_at hl 0 rfl) ?_
  refine lv_bipush (v := 8) hx hb dX0_branchDistance_28 (by decide) ?_
  refine lv_iushr (v := jush p1 (8 : Int32)) hx hb dX0_branchDistance_30 rfl ?_
  refine lv_bipush (v := 15) hx hb dX0_branchDistance_31 (by decide) ?_
  refine lv_iand hx hb dX0_branchDistance_33 ?_
  refine lv_iconst (v := 1) hx hb dX0_branchDistance_34 (by decide) ?_
  refine lv_ishl hx hb dX0_branchDistance_35 ?_
  refine lv_ior hx hb dX0_branchDistance_36 ?_
  refine lv_topi (fun x3 ex3 => ?_)
  exact W.iret (v := x3) hx hb hr (fun t ht hW => ⟨jq (by subst ex3 ex2 ex1; exact (rfl).symm), ht⟩) (fun q h => by cases h) dX0_branchDistance_37

def h_jumpDistance (p1 : Int32) : Int32 :=
  let x1 : Int32 := ((p1 >>> ((31 : Int32) &&& 31)) <<< ((20 : Int32) &&& 31)) ||| (((jush p1 (12 : Int32)) &&& (255 : Int32)) <<< ((12 : Int32) &&& 31))
  let x2 : Int32 := x1 ||| (((jush p1 (20 : Int32)) &&& (1 : Int32)) <<< ((11 : Int32) &&& 31))
  let x3 : Int32 := x2 ||| (((jush p1 (21 : Int32)) &&& (1023 : Int32)) <<< ((1 : Int32) &&& 31))
  x3
set_option maxHeartbeats 4000000 in
set_option maxRecDepth 100000 in
theorem ch_jumpDistance (l : Launch) (p1 : Int32) : Met l yX0_jumpDistance (.code yX0_jumpDistance cX0_jumpDistance 1 (some .int) :: gBIG) ({ frames := 0, cells := 0, slots := 0, locals := 0 }) (va_Pc [.int p1] (fun _ => True)) (QcRead (h_jumpDistance p1)) 0 0 (fun _ => False) := by
  refine Met.ofW (cc := cX0_jumpDistance) (maxL := 1) (ret := (some .int)) (by decide) rfl ?_
  intro p e s m args below meth c s₁ B hml hv
  obtain ⟨rfl, -⟩ := hv
  have hx := B.exec
  have hb := B.bytes
  have hr := B.returns
  have hts : ∀ w ∈ gBIG, w.before _ s = true := fun w h => atoms_spec (ws := (.code yX0_jumpDistance cX0_jumpDistance 1 (some .int) :: gBIG)) B.pre w (List.mem_cons_of_mem _ h)
  have hown : s.vm.findClass "PagedHart" = some m.cls := findClass_of_methodNamed B.named
  have hlocks := B.notSynchronized
  have hl := lv_entry ([.int p1]) (n := 1) (Nat.le_of_ble_eq_true rfl)
  rw [lg_entry_eq]
  generalize (lg_sl ([.int p1]) ++ List.replicate (1 - (lg_sl ([.int p1])).length) Slot.unset).toArray = ls at hl ⊢
  have hl : lv_has ls 1 [(0, .int p1)] := hl
  refine lv_iload_n hx hb dX0_jumpDistance_0 rfl (lv_at hl 0 rfl) ?_
  refine lv_bipush (v := 31) hx hb dX0_jumpDistance_1 (by decide) ?_
  refine lv_ishr hx hb dX0_jumpDistance_3 ?_
  refine lv_bipush (v := 20) hx hb dX0_jumpDistance_4 (by decide) ?_
  refine lv_ishl hx hb dX0_jumpDistance_6 ?_
  refine lv_iload_n hx hb dX0_jumpDistance_7 rfl (lv_at hl 0 rfl) ?_
  refine lv_bipush (v := 12) hx hb dX0_jumpDistance_8 (by decide) ?_
  refine lv_iushr (v := jush p1 (12 : Int32)) hx hb dX0_jumpDistance_10 rfl ?_
  refine lv_sipush (v := 255) hx hb dX0_jumpDistance_11 (by decide) ?_
  refine lv_iand hx hb dX0_jumpDistance_14 ?_
  refine lv_bipush (v := 12) hx hb dX0_jumpDistance_15 (by decide) ?_
  refine lv_ishl hx hb dX0_jumpDistance_17 ?_
  refine lv_ior hx hb dX0_jumpDistance_18 ?_
  refine lv_topi (fun x1 ex1 => ?_)
  refine lv_iload_n hx hb dX0_jumpDistance_19 rfl (lv_at hl 0 rfl) ?_
  refine lv_bipush (v := 20) hx hb dX0_jumpDistance_20 (by decide) ?_
  refine lv_iushr (v := jush p1 (20 : Int32)) hx hb dX0_jumpDistance_22 rfl ?_
  refine lv_iconst (v := 1) hx hb dX0_jumpDistance_23 (by decide) ?_
  refine lv_iand hx hb dX0_jumpDistance_24 ?_
  refine lv_bipush (v := 11) hx hb dX0_jumpDistance_25 (by decide) ?_
  refine lv_ishl hx hb dX0_jumpDistance_27 ?_
  refine lv_ior hx hb dX0_jumpDistance_28 ?_
  refine lv_topi (fun x2 ex2 => ?_)
  refine lv_iload_n hx hb dX0_jumpDistance_29 rfl (lv_at hl 0 rfl) ?_
  refine lv_bipush (v := 21) hx hb dX0_jumpDistance_30 (by decide) ?_
  refine lv_iushr (v := jush p1 (21 : Int32)) hx hb dX0_jumpDistance_32 rfl ?_
  refine lv_sipush (v := 1023) hx hb dX0_jumpDistance_33 (by decide) ?_
  refine lv_iand hx hb dX0_jumpDistance_36 ?_
  refine lv_iconst (v := 1) hx hb dX0_jumpDistance_37 (by decide) ?_
  refine lv_ishl hx hb dX0_jumpDistance_38 ?_
  refine lv_ior hx hb dX0_jumpDistance_39 ?_
  refine lv_topi (fun x3 ex3 => ?_)
  exact W.iret (v := x3) hx hb hr (fun t ht hW => ⟨jq (by subst ex3 ex2 ex1; exact (rfl).symm), ht⟩) (fun q h => by cases h) dX0_jumpDistance_40

def h_isBelow (p1 : Int32) (p2 : Int32) : Int32 :=
  let x1 : Int32 := lg_cmp (p1.toInt64 &&& (4294967295 : Int64)) (p2.toInt64 &&& (4294967295 : Int64))
  if 0 ≤ x1 then
    (0 : Int32)
  else
    (1 : Int32)
set_option maxHeartbeats 4000000 in
set_option maxRecDepth 100000 in
theorem ch_isBelow (l : Launch) (p1 : Int32) (p2 : Int32) : Met l yX0_isBelow (.code yX0_isBelow cX0_isBelow 2 (some .boolean) :: gBIG) ({ frames := 0, cells := 0, slots := 0, locals := 0 }) (va_Pc [.int p1, .int p2] (fun _ => True)) (QcRead (h_isBelow p1 p2)) 0 0 (fun _ => False) := by
  refine Met.ofW (cc := cX0_isBelow) (maxL := 2) (ret := (some .boolean)) (by decide) rfl ?_
  intro p e s m args below meth c s₁ B hml hv
  obtain ⟨rfl, -⟩ := hv
  have hx := B.exec
  have hb := B.bytes
  have hr := B.returns
  have hts : ∀ w ∈ gBIG, w.before _ s = true := fun w h => atoms_spec (ws := (.code yX0_isBelow cX0_isBelow 2 (some .boolean) :: gBIG)) B.pre w (List.mem_cons_of_mem _ h)
  have hown : s.vm.findClass "PagedHart" = some m.cls := findClass_of_methodNamed B.named
  have hlocks := B.notSynchronized
  have hl := lv_entry ([.int p1, .int p2]) (n := 2) (Nat.le_of_ble_eq_true rfl)
  rw [lg_entry_eq]
  generalize (lg_sl ([.int p1, .int p2]) ++ List.replicate (2 - (lg_sl ([.int p1, .int p2])).length) Slot.unset).toArray = ls at hl ⊢
  have hl : lv_has ls 2 [(0, .int p1), (1, .int p2)] := hl
  refine lv_iload_n hx hb dX0_isBelow_0 rfl (lv_at hl 0 rfl) ?_
  refine lv_i2l (v := p1.toInt64) hx hb dX0_isBelow_1 rfl ?_
  refine lv_ldc2 (v := 4294967295) hx hb hown (hts _ mC_0_174) dX0_isBelow_2 ?_
  refine lv_land hx hb dX0_isBelow_5 ?_
  refine lv_iload_n hx hb dX0_isBelow_6 rfl (lv_at hl 1 rfl) ?_
  refine lv_i2l (v := p2.toInt64) hx hb dX0_isBelow_7 rfl ?_
  refine lv_ldc2 (v := 4294967295) hx hb hown (hts _ mC_0_174) dX0_isBelow_8 ?_
  refine lv_land hx hb dX0_isBelow_11 ?_
  refine W.lcmp hx hb dX0_isBelow_12 ?_
  refine lv_topi (fun x1 ex1 => ?_)
  refine lv_if_ge (tgt := 20) hx hb dX0_isBelow_13 (by decide) (fun c2 => ?_) (fun c2 => ?_)
  · refine lv_iconst (v := 0) hx hb dX0_isBelow_20 (by decide) ?_
    exact W.zret (v := 0) hx hb hr rfl (fun t ht hW => ⟨jq (by subst ex1; exact (((if_pos c2).trans rfl)).symm), ht⟩) (fun q h => by cases h) dX0_isBelow_21
  · refine lv_iconst (v := 1) hx hb dX0_isBelow_16 (by decide) ?_
    refine lv_goto (tgt := 21) hx hb dX0_isBelow_17 (by decide) ?_
    exact W.zret (v := 1) hx hb hr rfl (fun t ht hW => ⟨jq (by subst ex1; exact (((if_neg c2).trans rfl)).symm), ht⟩) (fun q h => by cases h) dX0_isBelow_21

def h_isTaken (p1 : Int32) (p2 : Int32) (p3 : Int32) : Int32 :=
  if (2 : Int32) ≤ p1 then
    if (6 : Int32) ≤ p1 then
      let x3 : Int32 := h_isBelow p2 p3
      if (p1 &&& (1 : Int32)) = 0 then
        if x3 = (1 : Int32) then
          (1 : Int32)
        else
          (0 : Int32)
      else
        if x3 = (0 : Int32) then
          (1 : Int32)
        else
          (0 : Int32)
    else
      if p3 ≤ p2 then
        if (p1 &&& (1 : Int32)) = 0 then
          (0 : Int32)
        else
          (1 : Int32)
      else
        if (p1 &&& (1 : Int32)) = 0 then
          (1 : Int32)
        else
          (0 : Int32)
  else
    if p2 = p3 then
      if (p1 &&& (1 : Int32)) = 0 then
        (1 : Int32)
      else
        (0 : Int32)
    else
      if (p1 &&& (1 : Int32)) = 0 then
        (0 : Int32)
      else
        (1 : Int32)
set_option maxHeartbeats 4000000 in
set_option maxRecDepth 100000 in
theorem ch_isTaken (l : Launch) (p1 : Int32) (p2 : Int32) (p3 : Int32) : Met l yX0_isTaken (.code yX0_isTaken cX0_isTaken 4 (some .boolean) :: gBIG) ({ frames := 1, cells := 0, slots := 0, locals := 21 }) (va_Pc [.int p1, .int p2, .int p3] (fun _ => True)) (QcRead (h_isTaken p1 p2 p3)) 0 0 (fun _ => False) := by
  refine Met.ofW (cc := cX0_isTaken) (maxL := 4) (ret := (some .boolean)) (by decide) rfl ?_
  intro p e s m args below meth c s₁ B hml hv
  obtain ⟨rfl, -⟩ := hv
  have hx := B.exec
  have hb := B.bytes
  have hr := B.returns
  have hts : ∀ w ∈ gBIG, w.before _ s = true := fun w h => atoms_spec (ws := (.code yX0_isTaken cX0_isTaken 4 (some .boolean) :: gBIG)) B.pre w (List.mem_cons_of_mem _ h)
  have hown : s.vm.findClass "PagedHart" = some m.cls := findClass_of_methodNamed B.named
  have hlocks := B.notSynchronized
  have hl := lv_entry ([.int p1, .int p2, .int p3]) (n := 4) (Nat.le_of_ble_eq_true rfl)
  rw [lg_entry_eq]
  generalize (lg_sl ([.int p1, .int p2, .int p3]) ++ List.replicate (4 - (lg_sl ([.int p1, .int p2, .int p3])).length) Slot.unset).toArray = ls at hl ⊢
  have hl : lv_has ls 4 [(0, .int p1), (1, .int p2), (2, .int p3)] := hl
  refine lv_iload_n hx hb dX0_isTaken_0 rfl (lv_at hl 0 rfl) ?_
  refine lv_iconst (v := 2) hx hb dX0_isTaken_1 (by decide) ?_
  refine lv_icmp_ge (tgt := 19) hx hb dX0_isTaken_2 (by decide) (fun c1 => ?_) (fun c1 => ?_)
  · refine lv_iload_n hx hb dX0_isTaken_19 rfl (lv_at hl 0 rfl) ?_
    refine lv_bipush (v := 6) hx hb dX0_isTaken_20 (by decide) ?_
    refine lv_icmp_ge (tgt := 38) hx hb dX0_isTaken_22 (by decide) (fun c2 => ?_) (fun c2 => ?_)
    · refine lv_iload_n hx hb dX0_isTaken_38 rfl (lv_at hl 1 rfl) ?_
      refine lv_iload_n hx hb dX0_isTaken_39 rfl (lv_at hl 2 rfl) ?_
      refine W.callR (W.runS (As := [.int p2, .int p3]) (rest := []) ⟨hx, hb, hml, hown, hts⟩ (ch_isBelow l p2 p3) (cwS 2 hts (gS mL_0_171 mS_0_isBelow mN_0 mB_0_isBelow) rfl rfl rfl (by decide +kernel) ⟨Nat.le_of_ble_eq_true rfl, Nat.le_of_ble_eq_true rfl⟩) ⟨jblind, fun _ _ _ => ⟨rfl, trivial⟩⟩ rfl rfl hl.1 rfl (lv_room (Nat.le_of_ble_eq_true rfl)) dX0_isTaken_40 ⟨Nat.zero_le _, Nat.zero_le _⟩) ?_
      refine W.eq (g2 := F0 m 43 ls (.int (h_isBelow p2 p3) :: [])) rfl ?_
      refine lv_topi (fun x3 ex3 => ?_)
      refine lv_istore_n (lv' := [(3, .int x3), (0, .int p1), (1, .int p2), (2, .int p3)]) hx hb dX0_isTaken_43 rfl hl (by decide) rfl (fun ls hl => ?_)
      refine lv_iload_n hx hb dX0_isTaken_44 rfl (lv_at hl 0 rfl) ?_
      refine lv_iload_n hx hb dX0_isTaken_45 rfl (lv_at hl 1 rfl) ?_
      refine lv_iconst (v := 1) hx hb dX0_isTaken_46 (by decide) ?_
      refine lv_iand hx hb dX0_isTaken_47 ?_
      refine lv_if_ne (tgt := 55) hx hb dX0_isTaken_48 (by decide) (fun c4 => ?_) (fun c4 => ?_)
      · refine lv_iconst (v := 0) hx hb dX0_isTaken_55 (by decide) ?_
        refine lv_icmp_ne (tgt := 63) hx hb dX0_isTaken_56 (by decide) (fun c5 => ?_) (fun c5 => ?_)
        · refine lv_iconst (v := 0) hx hb dX0_isTaken_63 (by decide) ?_
          exact W.zret (v := 0) hx hb hr rfl (fun t ht hW => ⟨jq (by subst ex3; exact (((if_pos c1).trans ((if_pos c2).trans ((if_neg c4).trans ((if_neg c5).trans rfl))))).symm), ht⟩) (fun q h => by cases h) dX0_isTaken_64
        · refine lv_iconst (v := 1) hx hb dX0_isTaken_59 (by decide) ?_
          refine lv_goto (tgt := 64) hx hb dX0_isTaken_60 (by decide) ?_
          exact W.zret (v := 1) hx hb hr rfl (fun t ht hW => ⟨jq (by subst ex3; exact (((if_pos c1).trans ((if_pos c2).trans ((if_neg c4).trans ((if_pos c5).trans rfl))))).symm), ht⟩) (fun q h => by cases h) dX0_isTaken_64
      · refine lv_iconst (v := 1) hx hb dX0_isTaken_51 (by decide) ?_
        refine lv_goto (tgt := 56) hx hb dX0_isTaken_52 (by decide) ?_
        refine lv_icmp_ne (tgt := 63) hx hb dX0_isTaken_56 (by decide) (fun c6 => ?_) (fun c6 => ?_)
        · refine lv_iconst (v := 0) hx hb dX0_isTaken_63 (by decide) ?_
          exact W.zret (v := 0) hx hb hr rfl (fun t ht hW => ⟨jq (by subst ex3; exact (((if_pos c1).trans ((if_pos c2).trans ((if_pos c4).trans ((if_neg c6).trans rfl))))).symm), ht⟩) (fun q h => by cases h) dX0_isTaken_64
        · refine lv_iconst (v := 1) hx hb dX0_isTaken_59 (by decide) ?_
          refine lv_goto (tgt := 64) hx hb dX0_isTaken_60 (by decide) ?_
          exact W.zret (v := 1) hx hb hr rfl (fun t ht hW => ⟨jq (by subst ex3; exact (((if_pos c1).trans ((if_pos c2).trans ((if_pos c4).trans ((if_pos c6).trans rfl))))).symm), ht⟩) (fun q h => by cases h) dX0_isTaken_64
    · refine lv_iload_n hx hb dX0_isTaken_25 rfl (lv_at hl 1 rfl) ?_
      refine lv_iload_n hx hb dX0_isTaken_26 rfl (lv_at hl 2 rfl) ?_
      refine lv_icmp_ge (tgt := 34) hx hb dX0_isTaken_27 (by decide) (fun c7 => ?_) (fun c7 => ?_)
      · refine lv_iconst (v := 0) hx hb dX0_isTaken_34 (by decide) ?_
        refine lv_goto (tgt := 43) hx hb dX0_isTaken_35 (by decide) ?_
        refine lv_istore_n (lv' := [(3, .int 0), (0, .int p1), (1, .int p2), (2, .int p3)]) hx hb dX0_isTaken_43 rfl hl (by decide) rfl (fun ls hl => ?_)
        refine lv_iload_n hx hb dX0_isTaken_44 rfl (lv_at hl 0 rfl) ?_
        refine lv_iload_n hx hb dX0_isTaken_45 rfl (lv_at hl 1 rfl) ?_
        refine lv_iconst (v := 1) hx hb dX0_isTaken_46 (by decide) ?_
        refine lv_iand hx hb dX0_isTaken_47 ?_
        refine lv_if_ne (tgt := 55) hx hb dX0_isTaken_48 (by decide) (fun c8 => ?_) (fun c8 => ?_)
        · refine lv_iconst (v := 0) hx hb dX0_isTaken_55 (by decide) ?_
          refine lv_icmp_ne (tgt := 63) hx hb dX0_isTaken_56 (by decide) (fun c9 => ?_) (fun c9 => ?_)
          · exact (c9 (by decide)).elim
          · refine lv_iconst (v := 1) hx hb dX0_isTaken_59 (by decide) ?_
            refine lv_goto (tgt := 64) hx hb dX0_isTaken_60 (by decide) ?_
            exact W.zret (v := 1) hx hb hr rfl (fun t ht hW => ⟨jq (by exact (((if_pos c1).trans ((if_neg c2).trans ((if_pos c7).trans ((if_neg c8).trans rfl))))).symm), ht⟩) (fun q h => by cases h) dX0_isTaken_64
        · refine lv_iconst (v := 1) hx hb dX0_isTaken_51 (by decide) ?_
          refine lv_goto (tgt := 56) hx hb dX0_isTaken_52 (by decide) ?_
          refine lv_icmp_ne (tgt := 63) hx hb dX0_isTaken_56 (by decide) (fun c10 => ?_) (fun c10 => ?_)
          · refine lv_iconst (v := 0) hx hb dX0_isTaken_63 (by decide) ?_
            exact W.zret (v := 0) hx hb hr rfl (fun t ht hW => ⟨jq (by exact (((if_pos c1).trans ((if_neg c2).trans ((if_pos c7).trans ((if_pos c8).trans rfl))))).symm), ht⟩) (fun q h => by cases h) dX0_isTaken_64
          · exact absurd c10 (by decide)
      · refine lv_iconst (v := 1) hx hb dX0_isTaken_30 (by decide) ?_
        refine lv_goto (tgt := 43) hx hb dX0_isTaken_31 (by decide) ?_
        refine lv_istore_n (lv' := [(3, .int 1), (0, .int p1), (1, .int p2), (2, .int p3)]) hx hb dX0_isTaken_43 rfl hl (by decide) rfl (fun ls hl => ?_)
        refine lv_iload_n hx hb dX0_isTaken_44 rfl (lv_at hl 0 rfl) ?_
        refine lv_iload_n hx hb dX0_isTaken_45 rfl (lv_at hl 1 rfl) ?_
        refine lv_iconst (v := 1) hx hb dX0_isTaken_46 (by decide) ?_
        refine lv_iand hx hb dX0_isTaken_47 ?_
        refine lv_if_ne (tgt := 55) hx hb dX0_isTaken_48 (by decide) (fun c11 => ?_) (fun c11 => ?_)
        · refine lv_iconst (v := 0) hx hb dX0_isTaken_55 (by decide) ?_
          refine lv_icmp_ne (tgt := 63) hx hb dX0_isTaken_56 (by decide) (fun c12 => ?_) (fun c12 => ?_)
          · refine lv_iconst (v := 0) hx hb dX0_isTaken_63 (by decide) ?_
            exact W.zret (v := 0) hx hb hr rfl (fun t ht hW => ⟨jq (by exact (((if_pos c1).trans ((if_neg c2).trans ((if_neg c7).trans ((if_neg c11).trans rfl))))).symm), ht⟩) (fun q h => by cases h) dX0_isTaken_64
          · exact absurd c12 (by decide)
        · refine lv_iconst (v := 1) hx hb dX0_isTaken_51 (by decide) ?_
          refine lv_goto (tgt := 56) hx hb dX0_isTaken_52 (by decide) ?_
          refine lv_icmp_ne (tgt := 63) hx hb dX0_isTaken_56 (by decide) (fun c13 => ?_) (fun c13 => ?_)
          · exact (c13 (by decide)).elim
          · refine lv_iconst (v := 1) hx hb dX0_isTaken_59 (by decide) ?_
            refine lv_goto (tgt := 64) hx hb dX0_isTaken_60 (by decide) ?_
            exact W.zret (v := 1) hx hb hr rfl (fun t ht hW => ⟨jq (by exact (((if_pos c1).trans ((if_neg c2).trans ((if_neg c7).trans ((if_pos c11).trans rfl))))).symm), ht⟩) (fun q h => by cases h) dX0_isTaken_64
  · refine lv_iload_n hx hb dX0_isTaken_5 rfl (lv_at hl 1 rfl) ?_
    refine lv_iload_n hx hb dX0_isTaken_6 rfl (lv_at hl 2 rfl) ?_
    refine lv_icmp_ne (tgt := 14) hx hb dX0_isTaken_7 (by decide) (fun c14 => ?_) (fun c14 => ?_)
    · refine lv_iconst (v := 0) hx hb dX0_isTaken_14 (by decide) ?_
      refine lv_istore_n (lv' := [(3, .int 0), (0, .int p1), (1, .int p2), (2, .int p3)]) hx hb dX0_isTaken_15 rfl hl (by decide) rfl (fun ls hl => ?_)
      refine lv_goto (tgt := 44) hx hb dX0_isTaken_16 (by decide) ?_
      refine lv_iload_n hx hb dX0_isTaken_44 rfl (lv_at hl 0 rfl) ?_
      refine lv_iload_n hx hb dX0_isTaken_45 rfl (lv_at hl 1 rfl) ?_
      refine lv_iconst (v := 1) hx hb dX0_isTaken_46 (by decide) ?_
      refine lv_iand hx hb dX0_isTaken_47 ?_
      refine lv_if_ne (tgt := 55) hx hb dX0_isTaken_48 (by decide) (fun c15 => ?_) (fun c15 => ?_)
      · refine lv_iconst (v := 0) hx hb dX0_isTaken_55 (by decide) ?_
        refine lv_icmp_ne (tgt := 63) hx hb dX0_isTaken_56 (by decide) (fun c16 => ?_) (fun c16 => ?_)
        · exact (c16 (by decide)).elim
        · refine lv_iconst (v := 1) hx hb dX0_isTaken_59 (by decide) ?_
          refine lv_goto (tgt := 64) hx hb dX0_isTaken_60 (by decide) ?_
          exact W.zret (v := 1) hx hb hr rfl (fun t ht hW => ⟨jq (by exact (((if_neg c1).trans ((if_neg c14).trans ((if_neg c15).trans rfl)))).symm), ht⟩) (fun q h => by cases h) dX0_isTaken_64
      · refine lv_iconst (v := 1) hx hb dX0_isTaken_51 (by decide) ?_
        refine lv_goto (tgt := 56) hx hb dX0_isTaken_52 (by decide) ?_
        refine lv_icmp_ne (tgt := 63) hx hb dX0_isTaken_56 (by decide) (fun c17 => ?_) (fun c17 => ?_)
        · refine lv_iconst (v := 0) hx hb dX0_isTaken_63 (by decide) ?_
          exact W.zret (v := 0) hx hb hr rfl (fun t ht hW => ⟨jq (by exact (((if_neg c1).trans ((if_neg c14).trans ((if_pos c15).trans rfl)))).symm), ht⟩) (fun q h => by cases h) dX0_isTaken_64
        · exact absurd c17 (by decide)
    · refine lv_iconst (v := 1) hx hb dX0_isTaken_10 (by decide) ?_
      refine lv_goto (tgt := 15) hx hb dX0_isTaken_11 (by decide) ?_
      refine lv_istore_n (lv' := [(3, .int 1), (0, .int p1), (1, .int p2), (2, .int p3)]) hx hb dX0_isTaken_15 rfl hl (by decide) rfl (fun ls hl => ?_)
      refine lv_goto (tgt := 44) hx hb dX0_isTaken_16 (by decide) ?_
      refine lv_iload_n hx hb dX0_isTaken_44 rfl (lv_at hl 0 rfl) ?_
      refine lv_iload_n hx hb dX0_isTaken_45 rfl (lv_at hl 1 rfl) ?_
      refine lv_iconst (v := 1) hx hb dX0_isTaken_46 (by decide) ?_
      refine lv_iand hx hb dX0_isTaken_47 ?_
      refine lv_if_ne (tgt := 55) hx hb dX0_isTaken_48 (by decide) (fun c18 => ?_) (fun c18 => ?_)
      · refine lv_iconst (v := 0) hx hb dX0_isTaken_55 (by decide) ?_
        refine lv_icmp_ne (tgt := 63) hx hb dX0_isTaken_56 (by decide) (fun c19 => ?_) (fun c19 => ?_)
        · refine lv_iconst (v := 0) hx hb dX0_isTaken_63 (by decide) ?_
          exact W.zret (v := 0) hx hb hr rfl (fun t ht hW => ⟨jq (by exact (((if_neg c1).trans ((if_pos c14).trans ((if_neg c18).trans rfl)))).symm), ht⟩) (fun q h => by cases h) dX0_isTaken_64
        · exact absurd c19 (by decide)
      · refine lv_iconst (v := 1) hx hb dX0_isTaken_51 (by decide) ?_
        refine lv_goto (tgt := 56) hx hb dX0_isTaken_52 (by decide) ?_
        refine lv_icmp_ne (tgt := 63) hx hb dX0_isTaken_56 (by decide) (fun c20 => ?_) (fun c20 => ?_)
        · exact (c20 (by decide)).elim
        · refine lv_iconst (v := 1) hx hb dX0_isTaken_59 (by decide) ?_
          refine lv_goto (tgt := 64) hx hb dX0_isTaken_60 (by decide) ?_
          exact W.zret (v := 1) hx hb hr rfl (fun t ht hW => ⟨jq (by exact (((if_neg c1).trans ((if_pos c14).trans ((if_pos c18).trans rfl)))).symm), ht⟩) (fun q h => by cases h) dX0_isTaken_64

def h_extend (p1 : Int32) (p2 : Int32) : Int32 :=
  if p1 = 0 then
    ((p2 <<< ((24 : Int32) &&& 31)) >>> ((24 : Int32) &&& 31))
  else
    if p1 = 1 then
      ((p2 <<< ((16 : Int32) &&& 31)) >>> ((16 : Int32) &&& 31))
    else
      if p1 = 2 then
        p2
      else
        if p1 = 3 then
          p2
        else
          if p1 = 4 then
            (p2 &&& (255 : Int32))
          else
            if p1 = 5 then
              (p2 &&& (65535 : Int32))
            else
              p2
set_option maxHeartbeats 4000000 in
set_option maxRecDepth 100000 in
theorem ch_extend (l : Launch) (p1 : Int32) (p2 : Int32) : Met l yX0_extend (.code yX0_extend cX0_extend 2 (some .int) :: gBIG) ({ frames := 0, cells := 0, slots := 0, locals := 0 }) (va_Pc [.int p1, .int p2] (fun _ => True)) (QcRead (h_extend p1 p2)) 0 0 (fun _ => False) := by
  refine Met.ofW (cc := cX0_extend) (maxL := 2) (ret := (some .int)) (by decide) rfl ?_
  intro p e s m args below meth c s₁ B hml hv
  obtain ⟨rfl, -⟩ := hv
  have hx := B.exec
  have hb := B.bytes
  have hr := B.returns
  have hts : ∀ w ∈ gBIG, w.before _ s = true := fun w h => atoms_spec (ws := (.code yX0_extend cX0_extend 2 (some .int) :: gBIG)) B.pre w (List.mem_cons_of_mem _ h)
  have hown : s.vm.findClass "PagedHart" = some m.cls := findClass_of_methodNamed B.named
  have hlocks := B.notSynchronized
  have hl := lv_entry ([.int p1, .int p2]) (n := 2) (Nat.le_of_ble_eq_true rfl)
  rw [lg_entry_eq]
  generalize (lg_sl ([.int p1, .int p2]) ++ List.replicate (2 - (lg_sl ([.int p1, .int p2])).length) Slot.unset).toArray = ls at hl ⊢
  have hl : lv_has ls 2 [(0, .int p1), (1, .int p2)] := hl
  refine lv_iload_n hx hb dX0_extend_0 rfl (lv_at hl 0 rfl) ?_
  by_cases c1 : p1 = 0
  · refine lv_tableIn (tgt := 40) (off := 39) hx hb dX0_extend_1 (by rw [c1]; decide) (by rw [c1]; decide) (by rw [c1]; decide) (by decide) ?_
    refine lv_iload_n hx hb dX0_extend_40 rfl (lv_at hl 1 rfl) ?_
    refine lv_bipush (v := 24) hx hb dX0_extend_41 (by decide) ?_
    refine lv_ishl hx hb dX0_extend_43 ?_
    refine lv_bipush (v := 24) hx hb dX0_extend_44 (by decide) ?_
    refine lv_ishr hx hb dX0_extend_46 ?_
    exact W.iret (v := (p2 <<< ((24 : Int32) &&& 31)) >>> ((24 : Int32) &&& 31)) hx hb hr (fun t ht hW => ⟨jq (by exact (((if_pos c1).trans rfl)).symm), ht⟩) (fun q h => by cases h) dX0_extend_47
  by_cases c2 : p1 = 1
  · refine lv_tableIn (tgt := 48) (off := 47) hx hb dX0_extend_1 (by rw [c2]; decide) (by rw [c2]; decide) (by rw [c2]; decide) (by decide) ?_
    refine lv_iload_n hx hb dX0_extend_48 rfl (lv_at hl 1 rfl) ?_
    refine lv_bipush (v := 16) hx hb dX0_extend_49 (by decide) ?_
    refine lv_ishl hx hb dX0_extend_51 ?_
    refine lv_bipush (v := 16) hx hb dX0_extend_52 (by decide) ?_
    refine lv_ishr hx hb dX0_extend_54 ?_
    exact W.iret (v := (p2 <<< ((16 : Int32) &&& 31)) >>> ((16 : Int32) &&& 31)) hx hb hr (fun t ht hW => ⟨jq (by exact (((if_neg c1).trans ((if_pos c2).trans rfl))).symm), ht⟩) (fun q h => by cases h) dX0_extend_55
  by_cases c3 : p1 = 2
  · refine lv_tableIn (tgt := 67) (off := 66) hx hb dX0_extend_1 (by rw [c3]; decide) (by rw [c3]; decide) (by rw [c3]; decide) (by decide) ?_
    refine lv_iload_n hx hb dX0_extend_67 rfl (lv_at hl 1 rfl) ?_
    exact W.iret (v := p2) hx hb hr (fun t ht hW => ⟨jq (by exact (((if_neg c1).trans ((if_neg c2).trans ((if_pos c3).trans rfl)))).symm), ht⟩) (fun q h => by cases h) dX0_extend_68
  by_cases c4 : p1 = 3
  · refine lv_tableIn (tgt := 67) (off := 66) hx hb dX0_extend_1 (by rw [c4]; decide) (by rw [c4]; decide) (by rw [c4]; decide) (by decide) ?_
    refine lv_iload_n hx hb dX0_extend_67 rfl (lv_at hl 1 rfl) ?_
    exact W.iret (v := p2) hx hb hr (fun t ht hW => ⟨jq (by exact (((if_neg c1).trans ((if_neg c2).trans ((if_neg c3).trans ((if_pos c4).trans rfl))))).symm), ht⟩) (fun q h => by cases h) dX0_extend_68
  by_cases c5 : p1 = 4
  · refine lv_tableIn (tgt := 56) (off := 55) hx hb dX0_extend_1 (by rw [c5]; decide) (by rw [c5]; decide) (by rw [c5]; decide) (by decide) ?_
    refine lv_iload_n hx hb dX0_extend_56 rfl (lv_at hl 1 rfl) ?_
    refine lv_sipush (v := 255) hx hb dX0_extend_57 (by decide) ?_
    refine lv_iand hx hb dX0_extend_60 ?_
    exact W.iret (v := p2 &&& (255 : Int32)) hx hb hr (fun t ht hW => ⟨jq (by exact (((if_neg c1).trans ((if_neg c2).trans ((if_neg c3).trans ((if_neg c4).trans ((if_pos c5).trans rfl)))))).symm), ht⟩) (fun q h => by cases h) dX0_extend_61
  by_cases c6 : p1 = 5
  · refine lv_tableIn (tgt := 62) (off := 61) hx hb dX0_extend_1 (by rw [c6]; decide) (by rw [c6]; decide) (by rw [c6]; decide) (by decide) ?_
    refine lv_iload_n hx hb dX0_extend_62 rfl (lv_at hl 1 rfl) ?_
    refine lv_ldc (v := 65535) hx hb hown (hts _ mC_0_179) dX0_extend_63 ?_
    refine lv_iand hx hb dX0_extend_65 ?_
    exact W.iret (v := p2 &&& (65535 : Int32)) hx hb hr (fun t ht hW => ⟨jq (by exact (((if_neg c1).trans ((if_neg c2).trans ((if_neg c3).trans ((if_neg c4).trans ((if_neg c5).trans ((if_pos c6).trans rfl))))))).symm), ht⟩) (fun q h => by cases h) dX0_extend_66
  refine lv_tableOut (tgt := 67) hx hb dX0_extend_1 (by have := lv_neT (k := 0) (a := 0) c1 (by decide); have := lv_neT (k := 1) (a := 1) c2 (by decide); have := lv_neT (k := 2) (a := 2) c3 (by decide); have := lv_neT (k := 3) (a := 3) c4 (by decide); have := lv_neT (k := 4) (a := 4) c5 (by decide); have := lv_neT (k := 5) (a := 5) c6 (by decide); omega) (by decide) ?_
  refine lv_iload_n hx hb dX0_extend_67 rfl (lv_at hl 1 rfl) ?_
  exact W.iret (v := p2) hx hb hr (fun t ht hW => ⟨jq (by exact (((if_neg c1).trans ((if_neg c2).trans ((if_neg c3).trans ((if_neg c4).trans ((if_neg c5).trans ((if_neg c6).trans rfl))))))).symm), ht⟩) (fun q h => by cases h) dX0_extend_68

def h_maskOf (p1 : Int32) : Int32 :=
  if p1 = 0 then
    (255 : Int32)
  else
    if p1 = (1 : Int32) then
      (65535 : Int32)
    else
      ((-1) : Int32)
set_option maxHeartbeats 4000000 in
set_option maxRecDepth 100000 in
theorem ch_maskOf (l : Launch) (p1 : Int32) : Met l yX0_maskOf (.code yX0_maskOf cX0_maskOf 1 (some .int) :: gBIG) ({ frames := 0, cells := 0, slots := 0, locals := 0 }) (va_Pc [.int p1] (fun _ => True)) (QcRead (h_maskOf p1)) 0 0 (fun _ => False) := by
  refine Met.ofW (cc := cX0_maskOf) (maxL := 1) (ret := (some .int)) (by decide) rfl ?_
  intro p e s m args below meth c s₁ B hml hv
  obtain ⟨rfl, -⟩ := hv
  have hx := B.exec
  have hb := B.bytes
  have hr := B.returns
  have hts : ∀ w ∈ gBIG, w.before _ s = true := fun w h => atoms_spec (ws := (.code yX0_maskOf cX0_maskOf 1 (some .int) :: gBIG)) B.pre w (List.mem_cons_of_mem _ h)
  have hown : s.vm.findClass "PagedHart" = some m.cls := findClass_of_methodNamed B.named
  have hlocks := B.notSynchronized
  have hl := lv_entry ([.int p1]) (n := 1) (Nat.le_of_ble_eq_true rfl)
  rw [lg_entry_eq]
  generalize (lg_sl ([.int p1]) ++ List.replicate (1 - (lg_sl ([.int p1])).length) Slot.unset).toArray = ls at hl ⊢
  have hl : lv_has ls 1 [(0, .int p1)] := hl
  refine lv_iload_n hx hb dX0_maskOf_0 rfl (lv_at hl 0 rfl) ?_
  refine lv_if_ne (tgt := 8) hx hb dX0_maskOf_1 (by decide) (fun c1 => ?_) (fun c1 => ?_)
  · refine lv_iload_n hx hb dX0_maskOf_8 rfl (lv_at hl 0 rfl) ?_
    refine lv_iconst (v := 1) hx hb dX0_maskOf_9 (by decide) ?_
    refine lv_icmp_ne (tgt := 18) hx hb dX0_maskOf_10 (by decide) (fun c2 => ?_) (fun c2 => ?_)
    · refine lv_iconst (v := (-1)) hx hb dX0_maskOf_18 (by decide) ?_
      exact W.iret (v := (-1)) hx hb hr (fun t ht hW => ⟨jq (by exact (((if_neg c1).trans ((if_neg c2).trans rfl))).symm), ht⟩) (fun q h => by cases h) dX0_maskOf_19
    · refine lv_ldc (v := 65535) hx hb hown (hts _ mC_0_179) dX0_maskOf_13 ?_
      refine lv_goto (tgt := 19) hx hb dX0_maskOf_15 (by decide) ?_
      exact W.iret (v := 65535) hx hb hr (fun t ht hW => ⟨jq (by exact (((if_neg c1).trans ((if_pos c2).trans rfl))).symm), ht⟩) (fun q h => by cases h) dX0_maskOf_19
  · refine lv_sipush (v := 255) hx hb dX0_maskOf_4 (by decide) ?_
    exact W.iret (v := 255) hx hb hr (fun t ht hW => ⟨jq (by exact (((if_pos c1).trans rfl)).symm), ht⟩) (fun q h => by cases h) dX0_maskOf_7

def h_calculate (p1 : Int32) (p2 : Int32) (p3 : Int32) : Int32 :=
  if p1 = 0 then
    (p2 + p3)
  else
    if p1 = 1 then
      (p2 <<< ((p3 &&& (31 : Int32)) &&& 31))
    else
      if p1 = 2 then
        if p3 ≤ p2 then
          (0 : Int32)
        else
          (1 : Int32)
      else
        if p1 = 3 then
          let x6 : Int32 := h_isBelow p2 p3
          if x6 = 0 then
            (0 : Int32)
          else
            (1 : Int32)
        else
          if p1 = 4 then
            (p2 ^^^ p3)
          else
            if p1 = 5 then
              (jush p2 (p3 &&& (31 : Int32)))
            else
              if p1 = 6 then
                (p2 ||| p3)
              else
                (p2 &&& p3)
set_option maxHeartbeats 4000000 in
set_option maxRecDepth 100000 in
theorem ch_calculate (l : Launch) (p1 : Int32) (p2 : Int32) (p3 : Int32) : Met l yX0_calculate (.code yX0_calculate cX0_calculate 3 (some .int) :: gBIG) ({ frames := 1, cells := 0, slots := 0, locals := 21 }) (va_Pc [.int p1, .int p2, .int p3] (fun _ => True)) (QcRead (h_calculate p1 p2 p3)) 0 0 (fun _ => False) := by
  refine Met.ofW (cc := cX0_calculate) (maxL := 3) (ret := (some .int)) (by decide) rfl ?_
  intro p e s m args below meth c s₁ B hml hv
  obtain ⟨rfl, -⟩ := hv
  have hx := B.exec
  have hb := B.bytes
  have hr := B.returns
  have hts : ∀ w ∈ gBIG, w.before _ s = true := fun w h => atoms_spec (ws := (.code yX0_calculate cX0_calculate 3 (some .int) :: gBIG)) B.pre w (List.mem_cons_of_mem _ h)
  have hown : s.vm.findClass "PagedHart" = some m.cls := findClass_of_methodNamed B.named
  have hlocks := B.notSynchronized
  have hl := lv_entry ([.int p1, .int p2, .int p3]) (n := 3) (Nat.le_of_ble_eq_true rfl)
  rw [lg_entry_eq]
  generalize (lg_sl ([.int p1, .int p2, .int p3]) ++ List.replicate (3 - (lg_sl ([.int p1, .int p2, .int p3])).length) Slot.unset).toArray = ls at hl ⊢
  have hl : lv_has ls 3 [(0, .int p1), (1, .int p2), (2, .int p3)] := hl
  refine lv_iload_n hx hb dX0_calculate_0 rfl (lv_at hl 0 rfl) ?_
  by_cases c1 : p1 = 0
  · refine lv_tableIn (tgt := 44) (off := 43) hx hb dX0_calculate_1 (by rw [c1]; decide) (by rw [c1]; decide) (by rw [c1]; decide) (by decide) ?_
    refine lv_iload_n hx hb dX0_calculate_44 rfl (lv_at hl 1 rfl) ?_
    refine lv_iload_n hx hb dX0_calculate_45 rfl (lv_at hl 2 rfl) ?_
    refine lv_iadd hx hb dX0_calculate_46 ?_
    exact W.iret (v := p2 + p3) hx hb hr (fun t ht hW => ⟨jq (by exact (((if_pos c1).trans rfl)).symm), ht⟩) (fun q h => by cases h) dX0_calculate_47
  by_cases c2 : p1 = 1
  · refine lv_tableIn (tgt := 48) (off := 47) hx hb dX0_calculate_1 (by rw [c2]; decide) (by rw [c2]; decide) (by rw [c2]; decide) (by decide) ?_
    refine lv_iload_n hx hb dX0_calculate_48 rfl (lv_at hl 1 rfl) ?_
    refine lv_iload_n hx hb dX0_calculate_49 rfl (lv_at hl 2 rfl) ?_
    refine lv_bipush (v := 31) hx hb dX0_calculate_50 (by decide) ?_
    refine lv_iand hx hb dX0_calculate_52 ?_
    refine lv_ishl hx hb dX0_calculate_53 ?_
    exact W.iret (v := p2 <<< ((p3 &&& (31 : Int32)) &&& 31)) hx hb hr (fun t ht hW => ⟨jq (by exact (((if_neg c1).trans ((if_pos c2).trans rfl))).symm), ht⟩) (fun q h => by cases h) dX0_calculate_54
  by_cases c3 : p1 = 2
  · refine lv_tableIn (tgt := 55) (off := 54) hx hb dX0_calculate_1 (by rw [c3]; decide) (by rw [c3]; decide) (by rw [c3]; decide) (by decide) ?_
    refine lv_iload_n hx hb dX0_calculate_55 rfl (lv_at hl 1 rfl) ?_
    refine lv_iload_n hx hb dX0_calculate_56 rfl (lv_at hl 2 rfl) ?_
    refine lv_icmp_ge (tgt := 64) hx hb dX0_calculate_57 (by decide) (fun c4 => ?_) (fun c4 => ?_)
    · refine lv_iconst (v := 0) hx hb dX0_calculate_64 (by decide) ?_
      exact W.iret (v := 0) hx hb hr (fun t ht hW => ⟨jq (by exact (((if_neg c1).trans ((if_neg c2).trans ((if_pos c3).trans ((if_pos c4).trans rfl))))).symm), ht⟩) (fun q h => by cases h) dX0_calculate_65
    · refine lv_iconst (v := 1) hx hb dX0_calculate_60 (by decide) ?_
      refine lv_goto (tgt := 65) hx hb dX0_calculate_61 (by decide) ?_
      exact W.iret (v := 1) hx hb hr (fun t ht hW => ⟨jq (by exact (((if_neg c1).trans ((if_neg c2).trans ((if_pos c3).trans ((if_neg c4).trans rfl))))).symm), ht⟩) (fun q h => by cases h) dX0_calculate_65
  by_cases c5 : p1 = 3
  · refine lv_tableIn (tgt := 66) (off := 65) hx hb dX0_calculate_1 (by rw [c5]; decide) (by rw [c5]; decide) (by rw [c5]; decide) (by decide) ?_
    refine lv_iload_n hx hb dX0_calculate_66 rfl (lv_at hl 1 rfl) ?_
    refine lv_iload_n hx hb dX0_calculate_67 rfl (lv_at hl 2 rfl) ?_
    refine W.callR (W.runS (As := [.int p2, .int p3]) (rest := []) ⟨hx, hb, hml, hown, hts⟩ (ch_isBelow l p2 p3) (cwS 2 hts (gS mL_0_171 mS_0_isBelow mN_0 mB_0_isBelow) rfl rfl rfl (by decide +kernel) ⟨Nat.le_of_ble_eq_true rfl, Nat.le_of_ble_eq_true rfl⟩) ⟨jblind, fun _ _ _ => ⟨rfl, trivial⟩⟩ rfl rfl hl.1 rfl (lv_room (Nat.le_of_ble_eq_true rfl)) dX0_calculate_68 ⟨Nat.zero_le _, Nat.zero_le _⟩) ?_
    refine W.eq (g2 := F0 m 71 ls (.int (h_isBelow p2 p3) :: [])) rfl ?_
    refine lv_topi (fun x6 ex6 => ?_)
    refine lv_if_eq (tgt := 78) hx hb dX0_calculate_71 (by decide) (fun c7 => ?_) (fun c7 => ?_)
    · refine lv_iconst (v := 0) hx hb dX0_calculate_78 (by decide) ?_
      exact W.iret (v := 0) hx hb hr (fun t ht hW => ⟨jq (by subst ex6; exact (((if_neg c1).trans ((if_neg c2).trans ((if_neg c3).trans ((if_pos c5).trans ((if_pos c7).trans rfl)))))).symm), ht⟩) (fun q h => by cases h) dX0_calculate_79
    · refine lv_iconst (v := 1) hx hb dX0_calculate_74 (by decide) ?_
      refine lv_goto (tgt := 79) hx hb dX0_calculate_75 (by decide) ?_
      exact W.iret (v := 1) hx hb hr (fun t ht hW => ⟨jq (by subst ex6; exact (((if_neg c1).trans ((if_neg c2).trans ((if_neg c3).trans ((if_pos c5).trans ((if_neg c7).trans rfl)))))).symm), ht⟩) (fun q h => by cases h) dX0_calculate_79
  by_cases c8 : p1 = 4
  · refine lv_tableIn (tgt := 80) (off := 79) hx hb dX0_calculate_1 (by rw [c8]; decide) (by rw [c8]; decide) (by rw [c8]; decide) (by decide) ?_
    refine lv_iload_n hx hb dX0_calculate_80 rfl (lv_at hl 1 rfl) ?_
    refine lv_iload_n hx hb dX0_calculate_81 rfl (lv_at hl 2 rfl) ?_
    refine lv_ixor hx hb dX0_calculate_82 ?_
    exact W.iret (v := p2 ^^^ p3) hx hb hr (fun t ht hW => ⟨jq (by exact (((if_neg c1).trans ((if_neg c2).trans ((if_neg c3).trans ((if_neg c5).trans ((if_pos c8).trans rfl)))))).symm), ht⟩) (fun q h => by cases h) dX0_calculate_83
  by_cases c9 : p1 = 5
  · refine lv_tableIn (tgt := 84) (off := 83) hx hb dX0_calculate_1 (by rw [c9]; decide) (by rw [c9]; decide) (by rw [c9]; decide) (by decide) ?_
    refine lv_iload_n hx hb dX0_calculate_84 rfl (lv_at hl 1 rfl) ?_
    refine lv_iload_n hx hb dX0_calculate_85 rfl (lv_at hl 2 rfl) ?_
    refine lv_bipush (v := 31) hx hb dX0_calculate_86 (by decide) ?_
    refine lv_iand hx hb dX0_calculate_88 ?_
    refine lv_iushr (v := jush p2 (p3 &&& (31 : Int32))) hx hb dX0_calculate_89 rfl ?_
    exact W.iret (v := jush p2 (p3 &&& (31 : Int32))) hx hb hr (fun t ht hW => ⟨jq (by exact (((if_neg c1).trans ((if_neg c2).trans ((if_neg c3).trans ((if_neg c5).trans ((if_neg c8).trans ((if_pos c9).trans rfl))))))).symm), ht⟩) (fun q h => by cases h) dX0_calculate_90
  by_cases c10 : p1 = 6
  · refine lv_tableIn (tgt := 91) (off := 90) hx hb dX0_calculate_1 (by rw [c10]; decide) (by rw [c10]; decide) (by rw [c10]; decide) (by decide) ?_
    refine lv_iload_n hx hb dX0_calculate_91 rfl (lv_at hl 1 rfl) ?_
    refine lv_iload_n hx hb dX0_calculate_92 rfl (lv_at hl 2 rfl) ?_
    refine lv_ior hx hb dX0_calculate_93 ?_
    exact W.iret (v := p2 ||| p3) hx hb hr (fun t ht hW => ⟨jq (by exact (((if_neg c1).trans ((if_neg c2).trans ((if_neg c3).trans ((if_neg c5).trans ((if_neg c8).trans ((if_neg c9).trans ((if_pos c10).trans rfl)))))))).symm), ht⟩) (fun q h => by cases h) dX0_calculate_94
  refine lv_tableOut (tgt := 95) hx hb dX0_calculate_1 (by have := lv_neT (k := 0) (a := 0) c1 (by decide); have := lv_neT (k := 1) (a := 1) c2 (by decide); have := lv_neT (k := 2) (a := 2) c3 (by decide); have := lv_neT (k := 3) (a := 3) c5 (by decide); have := lv_neT (k := 4) (a := 4) c8 (by decide); have := lv_neT (k := 5) (a := 5) c9 (by decide); have := lv_neT (k := 6) (a := 6) c10 (by decide); omega) (by decide) ?_
  refine lv_iload_n hx hb dX0_calculate_95 rfl (lv_at hl 1 rfl) ?_
  refine lv_iload_n hx hb dX0_calculate_96 rfl (lv_at hl 2 rfl) ?_
  refine lv_iand hx hb dX0_calculate_97 ?_
  exact W.iret (v := p2 &&& p3) hx hb hr (fun t ht hW => ⟨jq (by exact (((if_neg c1).trans ((if_neg c2).trans ((if_neg c3).trans ((if_neg c5).trans ((if_neg c8).trans ((if_neg c9).trans ((if_neg c10).trans rfl)))))))).symm), ht⟩) (fun q h => by cases h) dX0_calculate_98

def h_multiply (p1 : Int32) (p2 : Int32) (p3 : Int32) : Int32 :=
  if p1 = 0 then
    (p2 * p3)
  else
    if p1 = 1 then
      (((p2.toInt64 * p3.toInt64) >>> ((32 : Int32).toInt64 &&& 63)).toInt32)
    else
      if p1 = 2 then
        let y4 : Int64 := (p2.toInt64 * (p3.toInt64 &&& (4294967295 : Int64))) >>> ((32 : Int32).toInt64 &&& 63)
        y4.toInt32
      else
        let y5 : Int64 := (p2.toInt64 &&& (4294967295 : Int64)) * (p3.toInt64 &&& (4294967295 : Int64))
        ((jlush y5 (32 : Int32)).toInt32)
set_option maxHeartbeats 4000000 in
set_option maxRecDepth 100000 in
theorem ch_multiply (l : Launch) (p1 : Int32) (p2 : Int32) (p3 : Int32) : Met l yX0_multiply (.code yX0_multiply cX0_multiply 3 (some .int) :: gBIG) ({ frames := 0, cells := 0, slots := 0, locals := 0 }) (va_Pc [.int p1, .int p2, .int p3] (fun _ => True)) (QcRead (h_multiply p1 p2 p3)) 0 0 (fun _ => False) := by
  refine Met.ofW (cc := cX0_multiply) (maxL := 3) (ret := (some .int)) (by decide) rfl ?_
  intro p e s m args below meth c s₁ B hml hv
  obtain ⟨rfl, -⟩ := hv
  have hx := B.exec
  have hb := B.bytes
  have hr := B.returns
  have hts : ∀ w ∈ gBIG, w.before _ s = true := fun w h => atoms_spec (ws := (.code yX0_multiply cX0_multiply 3 (some .int) :: gBIG)) B.pre w (List.mem_cons_of_mem _ h)
  have hown : s.vm.findClass "PagedHart" = some m.cls := findClass_of_methodNamed B.named
  have hlocks := B.notSynchronized
  have hl := lv_entry ([.int p1, .int p2, .int p3]) (n := 3) (Nat.le_of_ble_eq_true rfl)
  rw [lg_entry_eq]
  generalize (lg_sl ([.int p1, .int p2, .int p3]) ++ List.replicate (3 - (lg_sl ([.int p1, .int p2, .int p3])).length) Slot.unset).toArray = ls at hl ⊢
  have hl : lv_has ls 3 [(0, .int p1), (1, .int p2), (2, .int p3)] := hl
  refine lv_iload_n hx hb dX0_multiply_0 rfl (lv_at hl 0 rfl) ?_
  by_cases c1 : p1 = 0
  · refine lv_tableIn (tgt := 28) (off := 27) hx hb dX0_multiply_1 (by rw [c1]; decide) (by rw [c1]; decide) (by rw [c1]; decide) (by decide) ?_
    refine lv_iload_n hx hb dX0_multiply_28 rfl (lv_at hl 1 rfl) ?_
    refine lv_iload_n hx hb dX0_multiply_29 rfl (lv_at hl 2 rfl) ?_
    refine lv_imul hx hb dX0_multiply_30 ?_
    exact W.iret (v := p2 * p3) hx hb hr (fun t ht hW => ⟨jq (by exact (((if_pos c1).trans rfl)).symm), ht⟩) (fun q h => by cases h) dX0_multiply_31
  by_cases c2 : p1 = 1
  · refine lv_tableIn (tgt := 32) (off := 31) hx hb dX0_multiply_1 (by rw [c2]; decide) (by rw [c2]; decide) (by rw [c2]; decide) (by decide) ?_
    refine lv_iload_n hx hb dX0_multiply_32 rfl (lv_at hl 1 rfl) ?_
    refine lv_i2l (v := p2.toInt64) hx hb dX0_multiply_33 rfl ?_
    refine lv_iload_n hx hb dX0_multiply_34 rfl (lv_at hl 2 rfl) ?_
    refine lv_i2l (v := p3.toInt64) hx hb dX0_multiply_35 rfl ?_
    refine lv_lmul hx hb dX0_multiply_36 ?_
    refine lv_bipush (v := 32) hx hb dX0_multiply_37 (by decide) ?_
    refine lv_lshr (v := (p2.toInt64 * p3.toInt64) >>> ((32 : Int32).toInt64 &&& 63)) hx hb dX0_multiply_39 rfl ?_
    refine lv_l2i (v := ((p2.toInt64 * p3.toInt64) >>> ((32 : Int32).toInt64 &&& 63)).toInt32) hx hb dX0_multiply_40 rfl ?_
    exact W.iret (v := ((p2.toInt64 * p3.toInt64) >>> ((32 : Int32).toInt64 &&& 63)).toInt32) hx hb hr (fun t ht hW => ⟨jq (by exact (((if_neg c1).trans ((if_pos c2).trans rfl))).symm), ht⟩) (fun q h => by cases h) dX0_multiply_41
  by_cases c3 : p1 = 2
  · refine lv_tableIn (tgt := 42) (off := 41) hx hb dX0_multiply_1 (by rw [c3]; decide) (by rw [c3]; decide) (by rw [c3]; decide) (by decide) ?_
    refine lv_iload_n hx hb dX0_multiply_42 rfl (lv_at hl 1 rfl) ?_
    refine lv_i2l (v := p2.toInt64) hx hb dX0_multiply_43 rfl ?_
    refine lv_iload_n hx hb dX0_multiply_44 rfl (lv_at hl 2 rfl) ?_
    refine lv_i2l (v := p3.toInt64) hx hb dX0_multiply_45 rfl ?_
    refine lv_ldc2 (v := 4294967295) hx hb hown (hts _ mC_0_174) dX0_multiply_46 ?_
    refine lv_land hx hb dX0_multiply_49 ?_
    refine lv_lmul hx hb dX0_multiply_50 ?_
    refine lv_bipush (v := 32) hx hb dX0_multiply_51 (by decide) ?_
    refine lv_lshr (v := (p2.toInt64 * (p3.toInt64 &&& (4294967295 : Int64))) >>> ((32 : Int32).toInt64 &&& 63)) hx hb dX0_multiply_53 rfl ?_
    refine lv_topl (fun y4 ey4 => ?_)
    refine lv_l2i (v := y4.toInt32) hx hb dX0_multiply_54 rfl ?_
    exact W.iret (v := y4.toInt32) hx hb hr (fun t ht hW => ⟨jq (by subst ey4; exact (((if_neg c1).trans ((if_neg c2).trans ((if_pos c3).trans rfl)))).symm), ht⟩) (fun q h => by cases h) dX0_multiply_55
  refine lv_tableOut (tgt := 56) hx hb dX0_multiply_1 (by have := lv_neT (k := 0) (a := 0) c1 (by decide); have := lv_neT (k := 1) (a := 1) c2 (by decide); have := lv_neT (k := 2) (a := 2) c3 (by decide); omega) (by decide) ?_
  refine lv_iload_n hx hb dX0_multiply_56 rfl (lv_at hl 1 rfl) ?_
  refine lv_i2l (v := p2.toInt64) hx hb dX0_multiply_57 rfl ?_
  refine lv_ldc2 (v := 4294967295) hx hb hown (hts _ mC_0_174) dX0_multiply_58 ?_
  refine lv_land hx hb dX0_multiply_61 ?_
  refine lv_iload_n hx hb dX0_multiply_62 rfl (lv_at hl 2 rfl) ?_
  refine lv_i2l (v := p3.toInt64) hx hb dX0_multiply_63 rfl ?_
  refine lv_ldc2 (v := 4294967295) hx hb hown (hts _ mC_0_174) dX0_multiply_64 ?_
  refine lv_land hx hb dX0_multiply_67 ?_
  refine lv_lmul hx hb dX0_multiply_68 ?_
  refine lv_topl (fun y5 ey5 => ?_)
  refine lv_bipush (v := 32) hx hb dX0_multiply_69 (by decide) ?_
  refine lv_lushr (v := jlush y5 (32 : Int32)) hx hb dX0_multiply_71 rfl ?_
  refine lv_l2i (v := (jlush y5 (32 : Int32)).toInt32) hx hb dX0_multiply_72 rfl ?_
  exact W.iret (v := (jlush y5 (32 : Int32)).toInt32) hx hb hr (fun t ht hW => ⟨jq (by subst ey5; exact (((if_neg c1).trans ((if_neg c2).trans ((if_neg c3).trans rfl)))).symm), ht⟩) (fun q h => by cases h) dX0_multiply_73

theorem h_dv1 {a : Int32} (h : ¬ a = 0) : ¬ a.toInt64 = 0 := fun q => h (by
  have h1 : a.toInt64.toInt32 = a := by simp
  rw [q] at h1
  exact h1.symm)
theorem h_m32 : ∀ i, i < 64 → (4294967295#64).getLsbD i = decide (i < 32) := by decide
theorem h_lo (a : Int32) : (a.toInt64 &&& (4294967295 : Int64)).toBitVec = a.toBitVec.setWidth 64 := by
  rw [Int64.toBitVec_and, Int32.toBitVec_toInt64, show (4294967295 : Int64).toBitVec = 4294967295#64 from rfl]
  apply BitVec.eq_of_getLsbD_eq
  intro i hi
  rw [BitVec.getLsbD_and, BitVec.getLsbD_signExtend, h_m32 i hi, BitVec.getLsbD_setWidth]
  by_cases h : i < 32
  · simp [h, hi]
  · simp [h, hi]
    first | exact BitVec.getLsbD_of_ge _ _ (by omega) | omega
theorem h_dv2 {a : Int32} (h : ¬ a = 0) : ¬ (a.toInt64 &&& (4294967295 : Int64)) = 0 := fun q => h (by
  have h1 := h_lo a
  rw [q] at h1
  have h2 : a.toBitVec.toNat = 0 := by
    have h3 := congrArg BitVec.toNat h1
    have hb := a.toBitVec.isLt
    rw [BitVec.toNat_setWidth] at h3
    have h4 : (0 : Int64).toBitVec.toNat = 0 := rfl
    omega
  exact Int32.toBitVec_inj.mp (BitVec.eq_of_toNat_eq (by simpa using h2)))
def h_divide (p1 : Int32) (p2 : Int32) (p3 : Int32) : Int32 :=
  if p1 ≤ (5 : Int32) then
    if p3 = 0 then
      ((-1) : Int32)
    else
      if (p1 &&& (1 : Int32)) = 0 then
        let y10 : Int64 := p2.toInt64
        let y12 : Int64 := p3.toInt64
        ((y10 / y12).toInt32)
      else
        let y5 : Int64 := p2.toInt64 &&& (4294967295 : Int64)
        let y7 : Int64 := p3.toInt64 &&& (4294967295 : Int64)
        ((y5 / y7).toInt32)
  else
    if p3 = 0 then
      p2
    else
      if (p1 &&& (1 : Int32)) = 0 then
        let y23 : Int64 := p2.toInt64
        let y25 : Int64 := p3.toInt64
        ((y23 - y23 / y25 * y25).toInt32)
      else
        let y18 : Int64 := p2.toInt64 &&& (4294967295 : Int64)
        let y20 : Int64 := p3.toInt64 &&& (4294967295 : Int64)
        ((y18 - y18 / y20 * y20).toInt32)
set_option maxHeartbeats 4000000 in
set_option maxRecDepth 100000 in
theorem ch_divide (l : Launch) (p1 : Int32) (p2 : Int32) (p3 : Int32) : Met l yX0_divide (.code yX0_divide cX0_divide 9 (some .int) :: gBIG) ({ frames := 0, cells := 0, slots := 0, locals := 0 }) (va_Pc [.int p1, .int p2, .int p3] (fun _ => True)) (QcRead (h_divide p1 p2 p3)) 0 0 (fun _ => False) := by
  refine Met.ofW (cc := cX0_divide) (maxL := 9) (ret := (some .int)) (by decide) rfl ?_
  intro p e s m args below meth c s₁ B hml hv
  obtain ⟨rfl, -⟩ := hv
  have hx := B.exec
  have hb := B.bytes
  have hr := B.returns
  have hts : ∀ w ∈ gBIG, w.before _ s = true := fun w h => atoms_spec (ws := (.code yX0_divide cX0_divide 9 (some .int) :: gBIG)) B.pre w (List.mem_cons_of_mem _ h)
  have hown : s.vm.findClass "PagedHart" = some m.cls := findClass_of_methodNamed B.named
  have hlocks := B.notSynchronized
  have hl := lv_entry ([.int p1, .int p2, .int p3]) (n := 9) (Nat.le_of_ble_eq_true rfl)
  rw [lg_entry_eq]
  generalize (lg_sl ([.int p1, .int p2, .int p3]) ++ List.replicate (9 - (lg_sl ([.int p1, .int p2, .int p3])).length) Slot.unset).toArray = ls at hl ⊢
  have hl : lv_has ls 9 [(0, .int p1), (1, .int p2), (2, .int p3)] := hl
  refine lv_iload_n hx hb dX0_divide_0 rfl (lv_at hl 0 rfl) ?_
  refine lv_iconst (v := 5) hx hb dX0_divide_1 (by decide) ?_
  refine lv_icmp_le (tgt := 9) hx hb dX0_divide_2 (by decide) (fun c1 => ?_) (fun c1 => ?_)
  · refine lv_iconst (v := 0) hx hb dX0_divide_9 (by decide) ?_
    refine lv_istore_n (lv' := [(3, .int 0), (0, .int p1), (1, .int p2), (2, .int p3)]) hx hb dX0_divide_10 rfl hl (by decide) rfl (fun ls hl => ?_)
    refine lv_iload_n hx hb dX0_divide_11 rfl (lv_at hl 3 rfl) ?_
    refine lv_if_ne (tgt := 25) hx hb dX0_divide_12 (by decide) (fun c2 => ?_) (fun c2 => ?_)
    · refine lv_iload_n hx hb dX0_divide_25 rfl (lv_at hl 1 rfl) ?_
      refine lv_iconst (v := 1) hx hb dX0_divide_26 (by decide) ?_
      refine lv_iand hx hb dX0_divide_27 ?_
      refine lv_if_ne (tgt := 35) hx hb dX0_divide_28 (by decide) (fun c3 => ?_) (fun c3 => ?_)
      · refine lv_iconst (v := 0) hx hb dX0_divide_35 (by decide) ?_
        refine lv_istore (lv' := [(4, .int 0), (3, .int 0), (0, .int p1), (1, .int p2), (2, .int p3)]) hx hb dX0_divide_36 hl (by decide) rfl (fun ls hl => ?_)
        refine lv_iload hx hb dX0_divide_38 (lv_at hl 0 rfl) ?_
        refine lv_if_eq (tgt := 48) hx hb dX0_divide_40 (by decide) (fun c4 => ?_) (fun c4 => ?_)
        · refine lv_iload_n hx hb dX0_divide_48 rfl (lv_at hl 3 rfl) ?_
          refine lv_i2l (v := p2.toInt64) hx hb dX0_divide_49 rfl ?_
          refine lv_ldc2 (v := 4294967295) hx hb hown (hts _ mC_0_174) dX0_divide_50 ?_
          refine lv_land hx hb dX0_divide_53 ?_
          refine lv_topl (fun y5 ey5 => ?_)
          refine lv_lstore (lv' := [(5, .long y5), (4, .int 0), (3, .int 0), (0, .int p1), (1, .int p2), (2, .int p3)]) hx hb dX0_divide_54 hl (by decide) rfl (fun ls hl => ?_)
          refine lv_iload hx hb dX0_divide_56 (lv_at hl 1 rfl) ?_
          refine lv_if_eq (tgt := 66) hx hb dX0_divide_58 (by decide) (fun c6 => ?_) (fun c6 => ?_)
          · refine lv_iload_n hx hb dX0_divide_66 rfl (lv_at hl 5 rfl) ?_
            refine lv_i2l (v := p3.toInt64) hx hb dX0_divide_67 rfl ?_
            refine lv_ldc2 (v := 4294967295) hx hb hown (hts _ mC_0_174) dX0_divide_68 ?_
            refine lv_land hx hb dX0_divide_71 ?_
            refine lv_topl (fun y7 ey7 => ?_)
            refine lv_lstore (lv' := [(7, .long y7), (5, .long y5), (4, .int 0), (3, .int 0), (0, .int p1), (1, .int p2), (2, .int p3)]) hx hb dX0_divide_72 hl (by decide) rfl (fun ls hl => ?_)
            refine lv_iload_n hx hb dX0_divide_74 rfl (lv_at hl 3 rfl) ?_
            refine lv_if_eq (tgt := 86) hx hb dX0_divide_75 (by decide) (fun c8 => ?_) (fun c8 => ?_)
            · refine lv_lload hx hb dX0_divide_86 (lv_at hl 1 rfl) ?_
              refine lv_lload hx hb dX0_divide_88 (lv_at hl 0 rfl) ?_
              refine lv_ldiv hx hb dX0_divide_90 (by rw [ey7]; exact h_dv2 c2) ?_
              refine lv_l2i (v := (y5 / y7).toInt32) hx hb dX0_divide_91 rfl ?_
              exact W.iret (v := (y5 / y7).toInt32) hx hb hr (fun t ht hW => ⟨jq (by subst ey7 ey5; exact (((if_pos c1).trans ((if_neg c2).trans ((if_neg c3).trans rfl)))).symm), ht⟩) (fun q h => by cases h) dX0_divide_92
            · exact (c8 (by decide)).elim
          · exact (c6 (by decide)).elim
        · exact (c4 (by decide)).elim
      · refine lv_iconst (v := 1) hx hb dX0_divide_31 (by decide) ?_
        refine lv_goto (tgt := 36) hx hb dX0_divide_32 (by decide) ?_
        refine lv_istore (lv' := [(4, .int 1), (3, .int 0), (0, .int p1), (1, .int p2), (2, .int p3)]) hx hb dX0_divide_36 hl (by decide) rfl (fun ls hl => ?_)
        refine lv_iload hx hb dX0_divide_38 (lv_at hl 0 rfl) ?_
        refine lv_if_eq (tgt := 48) hx hb dX0_divide_40 (by decide) (fun c9 => ?_) (fun c9 => ?_)
        · exact absurd c9 (by decide)
        · refine lv_iload_n hx hb dX0_divide_43 rfl (lv_at hl 3 rfl) ?_
          refine lv_i2l (v := p2.toInt64) hx hb dX0_divide_44 rfl ?_
          refine lv_goto (tgt := 54) hx hb dX0_divide_45 (by decide) ?_
          refine lv_topl (fun y10 ey10 => ?_)
          refine lv_lstore (lv' := [(5, .long y10), (4, .int 1), (3, .int 0), (0, .int p1), (1, .int p2), (2, .int p3)]) hx hb dX0_divide_54 hl (by decide) rfl (fun ls hl => ?_)
          refine lv_iload hx hb dX0_divide_56 (lv_at hl 1 rfl) ?_
          refine lv_if_eq (tgt := 66) hx hb dX0_divide_58 (by decide) (fun c11 => ?_) (fun c11 => ?_)
          · exact absurd c11 (by decide)
          · refine lv_iload_n hx hb dX0_divide_61 rfl (lv_at hl 5 rfl) ?_
            refine lv_i2l (v := p3.toInt64) hx hb dX0_divide_62 rfl ?_
            refine lv_goto (tgt := 72) hx hb dX0_divide_63 (by decide) ?_
            refine lv_topl (fun y12 ey12 => ?_)
            refine lv_lstore (lv' := [(7, .long y12), (5, .long y10), (4, .int 1), (3, .int 0), (0, .int p1), (1, .int p2), (2, .int p3)]) hx hb dX0_divide_72 hl (by decide) rfl (fun ls hl => ?_)
            refine lv_iload_n hx hb dX0_divide_74 rfl (lv_at hl 3 rfl) ?_
            refine lv_if_eq (tgt := 86) hx hb dX0_divide_75 (by decide) (fun c13 => ?_) (fun c13 => ?_)
            · refine lv_lload hx hb dX0_divide_86 (lv_at hl 1 rfl) ?_
              refine lv_lload hx hb dX0_divide_88 (lv_at hl 0 rfl) ?_
              refine lv_ldiv hx hb dX0_divide_90 (by rw [ey12]; exact h_dv1 c2) ?_
              refine lv_l2i (v := (y10 / y12).toInt32) hx hb dX0_divide_91 rfl ?_
              exact W.iret (v := (y10 / y12).toInt32) hx hb hr (fun t ht hW => ⟨jq (by subst ey12 ey10; exact (((if_pos c1).trans ((if_neg c2).trans ((if_pos c3).trans rfl)))).symm), ht⟩) (fun q h => by cases h) dX0_divide_92
            · exact (c13 (by decide)).elim
    · refine lv_iload_n hx hb dX0_divide_15 rfl (lv_at hl 0 rfl) ?_
      refine lv_if_eq (tgt := 23) hx hb dX0_divide_16 (by decide) (fun c14 => ?_) (fun c14 => ?_)
      · refine lv_iconst (v := (-1)) hx hb dX0_divide_23 (by decide) ?_
        exact W.iret (v := (-1)) hx hb hr (fun t ht hW => ⟨jq (by exact (((if_pos c1).trans ((if_pos c2).trans rfl))).symm), ht⟩) (fun q h => by cases h) dX0_divide_24
      · exact (c14 (by decide)).elim
  · refine lv_iconst (v := 1) hx hb dX0_divide_5 (by decide) ?_
    refine lv_goto (tgt := 10) hx hb dX0_divide_6 (by decide) ?_
    refine lv_istore_n (lv' := [(3, .int 1), (0, .int p1), (1, .int p2), (2, .int p3)]) hx hb dX0_divide_10 rfl hl (by decide) rfl (fun ls hl => ?_)
    refine lv_iload_n hx hb dX0_divide_11 rfl (lv_at hl 3 rfl) ?_
    refine lv_if_ne (tgt := 25) hx hb dX0_divide_12 (by decide) (fun c15 => ?_) (fun c15 => ?_)
    · refine lv_iload_n hx hb dX0_divide_25 rfl (lv_at hl 1 rfl) ?_
      refine lv_iconst (v := 1) hx hb dX0_divide_26 (by decide) ?_
      refine lv_iand hx hb dX0_divide_27 ?_
      refine lv_if_ne (tgt := 35) hx hb dX0_divide_28 (by decide) (fun c16 => ?_) (fun c16 => ?_)
      · refine lv_iconst (v := 0) hx hb dX0_divide_35 (by decide) ?_
        refine lv_istore (lv' := [(4, .int 0), (3, .int 1), (0, .int p1), (1, .int p2), (2, .int p3)]) hx hb dX0_divide_36 hl (by decide) rfl (fun ls hl => ?_)
        refine lv_iload hx hb dX0_divide_38 (lv_at hl 0 rfl) ?_
        refine lv_if_eq (tgt := 48) hx hb dX0_divide_40 (by decide) (fun c17 => ?_) (fun c17 => ?_)
        · refine lv_iload_n hx hb dX0_divide_48 rfl (lv_at hl 3 rfl) ?_
          refine lv_i2l (v := p2.toInt64) hx hb dX0_divide_49 rfl ?_
          refine lv_ldc2 (v := 4294967295) hx hb hown (hts _ mC_0_174) dX0_divide_50 ?_
          refine lv_land hx hb dX0_divide_53 ?_
          refine lv_topl (fun y18 ey18 => ?_)
          refine lv_lstore (lv' := [(5, .long y18), (4, .int 0), (3, .int 1), (0, .int p1), (1, .int p2), (2, .int p3)]) hx hb dX0_divide_54 hl (by decide) rfl (fun ls hl => ?_)
          refine lv_iload hx hb dX0_divide_56 (lv_at hl 1 rfl) ?_
          refine lv_if_eq (tgt := 66) hx hb dX0_divide_58 (by decide) (fun c19 => ?_) (fun c19 => ?_)
          · refine lv_iload_n hx hb dX0_divide_66 rfl (lv_at hl 5 rfl) ?_
            refine lv_i2l (v := p3.toInt64) hx hb dX0_divide_67 rfl ?_
            refine lv_ldc2 (v := 4294967295) hx hb hown (hts _ mC_0_174) dX0_divide_68 ?_
            refine lv_land hx hb dX0_divide_71 ?_
            refine lv_topl (fun y20 ey20 => ?_)
            refine lv_lstore (lv' := [(7, .long y20), (5, .long y18), (4, .int 0), (3, .int 1), (0, .int p1), (1, .int p2), (2, .int p3)]) hx hb dX0_divide_72 hl (by decide) rfl (fun ls hl => ?_)
            refine lv_iload_n hx hb dX0_divide_74 rfl (lv_at hl 3 rfl) ?_
            refine lv_if_eq (tgt := 86) hx hb dX0_divide_75 (by decide) (fun c21 => ?_) (fun c21 => ?_)
            · exact absurd c21 (by decide)
            · refine lv_lload hx hb dX0_divide_78 (lv_at hl 1 rfl) ?_
              refine lv_lload hx hb dX0_divide_80 (lv_at hl 0 rfl) ?_
              refine lv_lrem hx hb dX0_divide_82 (by rw [ey20]; exact h_dv2 c15) ?_
              refine lv_goto (tgt := 91) hx hb dX0_divide_83 (by decide) ?_
              refine lv_l2i (v := (y18 - y18 / y20 * y20).toInt32) hx hb dX0_divide_91 rfl ?_
              exact W.iret (v := (y18 - y18 / y20 * y20).toInt32) hx hb hr (fun t ht hW => ⟨jq (by subst ey20 ey18; exact (((if_neg c1).trans ((if_neg c15).trans ((if_neg c16).trans rfl)))).symm), ht⟩) (fun q h => by cases h) dX0_divide_92
          · exact (c19 (by decide)).elim
        · exact (c17 (by decide)).elim
      · refine lv_iconst (v := 1) hx hb dX0_divide_31 (by decide) ?_
        refine lv_goto (tgt := 36) hx hb dX0_divide_32 (by decide) ?_
        refine lv_istore (lv' := [(4, .int 1), (3, .int 1), (0, .int p1), (1, .int p2), (2, .int p3)]) hx hb dX0_divide_36 hl (by decide) rfl (fun ls hl => ?_)
        refine lv_iload hx hb dX0_divide_38 (lv_at hl 0 rfl) ?_
        refine lv_if_eq (tgt := 48) hx hb dX0_divide_40 (by decide) (fun c22 => ?_) (fun c22 => ?_)
        · exact absurd c22 (by decide)
        · refine lv_iload_n hx hb dX0_divide_43 rfl (lv_at hl 3 rfl) ?_
          refine lv_i2l (v := p2.toInt64) hx hb dX0_divide_44 rfl ?_
          refine lv_goto (tgt := 54) hx hb dX0_divide_45 (by decide) ?_
          refine lv_topl (fun y23 ey23 => ?_)
          refine lv_lstore (lv' := [(5, .long y23), (4, .int 1), (3, .int 1), (0, .int p1), (1, .int p2), (2, .int p3)]) hx hb dX0_divide_54 hl (by decide) rfl (fun ls hl => ?_)
          refine lv_iload hx hb dX0_divide_56 (lv_at hl 1 rfl) ?_
          refine lv_if_eq (tgt := 66) hx hb dX0_divide_58 (by decide) (fun c24 => ?_) (fun c24 => ?_)
          · exact absurd c24 (by decide)
          · refine lv_iload_n hx hb dX0_divide_61 rfl (lv_at hl 5 rfl) ?_
            refine lv_i2l (v := p3.toInt64) hx hb dX0_divide_62 rfl ?_
            refine lv_goto (tgt := 72) hx hb dX0_divide_63 (by decide) ?_
            refine lv_topl (fun y25 ey25 => ?_)
            refine lv_lstore (lv' := [(7, .long y25), (5, .long y23), (4, .int 1), (3, .int 1), (0, .int p1), (1, .int p2), (2, .int p3)]) hx hb dX0_divide_72 hl (by decide) rfl (fun ls hl => ?_)
            refine lv_iload_n hx hb dX0_divide_74 rfl (lv_at hl 3 rfl) ?_
            refine lv_if_eq (tgt := 86) hx hb dX0_divide_75 (by decide) (fun c26 => ?_) (fun c26 => ?_)
            · exact absurd c26 (by decide)
            · refine lv_lload hx hb dX0_divide_78 (lv_at hl 1 rfl) ?_
              refine lv_lload hx hb dX0_divide_80 (lv_at hl 0 rfl) ?_
              refine lv_lrem hx hb dX0_divide_82 (by rw [ey25]; exact h_dv1 c15) ?_
              refine lv_goto (tgt := 91) hx hb dX0_divide_83 (by decide) ?_
              refine lv_l2i (v := (y23 - y23 / y25 * y25).toInt32) hx hb dX0_divide_91 rfl ?_
              exact W.iret (v := (y23 - y23 / y25 * y25).toInt32) hx hb hr (fun t ht hW => ⟨jq (by subst ey25 ey23; exact (((if_neg c1).trans ((if_neg c15).trans ((if_pos c16).trans rfl)))).symm), ht⟩) (fun q h => by cases h) dX0_divide_92
    · refine lv_iload_n hx hb dX0_divide_15 rfl (lv_at hl 0 rfl) ?_
      refine lv_if_eq (tgt := 23) hx hb dX0_divide_16 (by decide) (fun c27 => ?_) (fun c27 => ?_)
      · exact absurd c27 (by decide)
      · refine lv_iload_n hx hb dX0_divide_19 rfl (lv_at hl 2 rfl) ?_
        refine lv_goto (tgt := 24) hx hb dX0_divide_20 (by decide) ?_
        exact W.iret (v := p2) hx hb hr (fun t ht hW => ⟨jq (by exact (((if_neg c1).trans ((if_pos c15).trans rfl))).symm), ht⟩) (fun q h => by cases h) dX0_divide_24

def h_changed (p1 : Int32) (p2 : Int32) (p3 : Int32) : Int32 :=
  if p1 = (1 : Int32) then
    p3
  else
    if p1 = (2 : Int32) then
      (p2 ||| p3)
    else
      (p2 &&& (p3 ^^^ ((-1) : Int32)))
set_option maxHeartbeats 4000000 in
set_option maxRecDepth 100000 in
theorem ch_changed (l : Launch) (p1 : Int32) (p2 : Int32) (p3 : Int32) : Met l yX0_changed (.code yX0_changed cX0_changed 3 (some .int) :: gBIG) ({ frames := 0, cells := 0, slots := 0, locals := 0 }) (va_Pc [.int p1, .int p2, .int p3] (fun _ => True)) (QcRead (h_changed p1 p2 p3)) 0 0 (fun _ => False) := by
  refine Met.ofW (cc := cX0_changed) (maxL := 3) (ret := (some .int)) (by decide) rfl ?_
  intro p e s m args below meth c s₁ B hml hv
  obtain ⟨rfl, -⟩ := hv
  have hx := B.exec
  have hb := B.bytes
  have hr := B.returns
  have hts : ∀ w ∈ gBIG, w.before _ s = true := fun w h => atoms_spec (ws := (.code yX0_changed cX0_changed 3 (some .int) :: gBIG)) B.pre w (List.mem_cons_of_mem _ h)
  have hown : s.vm.findClass "PagedHart" = some m.cls := findClass_of_methodNamed B.named
  have hlocks := B.notSynchronized
  have hl := lv_entry ([.int p1, .int p2, .int p3]) (n := 3) (Nat.le_of_ble_eq_true rfl)
  rw [lg_entry_eq]
  generalize (lg_sl ([.int p1, .int p2, .int p3]) ++ List.replicate (3 - (lg_sl ([.int p1, .int p2, .int p3])).length) Slot.unset).toArray = ls at hl ⊢
  have hl : lv_has ls 3 [(0, .int p1), (1, .int p2), (2, .int p3)] := hl
  refine lv_iload_n hx hb dX0_changed_0 rfl (lv_at hl 0 rfl) ?_
  refine lv_iconst (v := 1) hx hb dX0_changed_1 (by decide) ?_
  refine lv_icmp_ne (tgt := 7) hx hb dX0_changed_2 (by decide) (fun c1 => ?_) (fun c1 => ?_)
  · refine lv_iload_n hx hb dX0_changed_7 rfl (lv_at hl 0 rfl) ?_
    refine lv_iconst (v := 2) hx hb dX0_changed_8 (by decide) ?_
    refine lv_icmp_ne (tgt := 18) hx hb dX0_changed_9 (by decide) (fun c2 => ?_) (fun c2 => ?_)
    · refine lv_iload_n hx hb dX0_changed_18 rfl (lv_at hl 1 rfl) ?_
      refine lv_iload_n hx hb dX0_changed_19 rfl (lv_at hl 2 rfl) ?_
      refine lv_iconst (v := (-1)) hx hb dX0_changed_20 (by decide) ?_
      refine lv_ixor hx hb dX0_changed_21 ?_
      refine lv_iand hx hb dX0_changed_22 ?_
      exact W.iret (v := p2 &&& (p3 ^^^ ((-1) : Int32))) hx hb hr (fun t ht hW => ⟨jq (by exact (((if_neg c1).trans ((if_neg c2).trans rfl))).symm), ht⟩) (fun q h => by cases h) dX0_changed_23
    · refine lv_iload_n hx hb dX0_changed_12 rfl (lv_at hl 1 rfl) ?_
      refine lv_iload_n hx hb dX0_changed_13 rfl (lv_at hl 2 rfl) ?_
      refine lv_ior hx hb dX0_changed_14 ?_
      refine lv_goto (tgt := 23) hx hb dX0_changed_15 (by decide) ?_
      exact W.iret (v := p2 ||| p3) hx hb hr (fun t ht hW => ⟨jq (by exact (((if_neg c1).trans ((if_pos c2).trans rfl))).symm), ht⟩) (fun q h => by cases h) dX0_changed_23
  · refine lv_iload_n hx hb dX0_changed_5 rfl (lv_at hl 2 rfl) ?_
    exact W.iret (v := p3) hx hb hr (fun t ht hW => ⟨jq (by exact (((if_pos c1).trans rfl)).symm), ht⟩) (fun q h => by cases h) dX0_changed_6
end
section
def h_slotOf (p1 : Int32) : Int32 :=
  if (hNum (0 : Int32).toNatClampNeg) = p1 then
    (0 : Int32)
  else
    if (hNum (1 : Int32).toNatClampNeg) = p1 then
      (1 : Int32)
    else
      if (hNum (2 : Int32).toNatClampNeg) = p1 then
        (2 : Int32)
      else
        if (hNum (3 : Int32).toNatClampNeg) = p1 then
          (3 : Int32)
        else
          if (hNum (4 : Int32).toNatClampNeg) = p1 then
            (4 : Int32)
          else
            if (hNum (5 : Int32).toNatClampNeg) = p1 then
              (5 : Int32)
            else
              if (hNum (6 : Int32).toNatClampNeg) = p1 then
                (6 : Int32)
              else
                if (hNum (7 : Int32).toNatClampNeg) = p1 then
                  (7 : Int32)
                else
                  if (hNum (8 : Int32).toNatClampNeg) = p1 then
                    (8 : Int32)
                  else
                    ((-1) : Int32)
set_option maxHeartbeats 4000000 in
set_option maxRecDepth 100000 in
theorem ch_slotOf (l : Launch) (tN tB : Nat) (p1 : Int32) : Met l yX0_slotOf (.code yX0_slotOf cX0_slotOf 2 (some .int) :: gBIG) ({ frames := 0, cells := 0, slots := 0, locals := 0 }) (va_Pc [.int p1] (gZp tN tB)) (QcRead (h_slotOf p1)) 0 0 (fun _ => False) := by
  refine Met.ofW (cc := cX0_slotOf) (maxL := 2) (ret := (some .int)) (by decide) rfl ?_
  intro p e s m args below meth c s₁ B hml hv
  obtain ⟨rfl, hZ⟩ := hv
  have hx := B.exec
  have hb := B.bytes
  have hr := B.returns
  have hts : ∀ w ∈ gBIG, w.before _ s = true := fun w h => atoms_spec (ws := (.code yX0_slotOf cX0_slotOf 2 (some .int) :: gBIG)) B.pre w (List.mem_cons_of_mem _ h)
  have hown : s.vm.findClass "PagedHart" = some m.cls := findClass_of_methodNamed B.named
  have hlocks := B.notSynchronized
  have hS : va_S (fun _ => False) s.heap s.heap [] := va_S.rf
  have hl := lv_entry ([.int p1]) (n := 2) (Nat.le_of_ble_eq_true rfl)
  rw [lg_entry_eq]
  generalize (lg_sl ([.int p1]) ++ List.replicate (2 - (lg_sl ([.int p1])).length) Slot.unset).toArray = ls at hl ⊢
  have hl : lv_has ls 2 [(0, .int p1)] := hl
  refine lv_iconst (v := 0) hx hb dX0_slotOf_0 (by decide) ?_
  refine lv_istore_n (lv' := [(1, .int 0), (0, .int p1)]) hx hb dX0_slotOf_1 rfl hl (by decide) rfl (fun ls hl => ?_)
  refine lv_iload_n hx hb dX0_slotOf_2 rfl (lv_at hl 0 rfl) ?_
  refine lv_bipush (v := 9) hx hb dX0_slotOf_3 (by decide) ?_
  refine lv_icmp_ge (tgt := 25) hx hb dX0_slotOf_5 (by decide) (fun c1 => ?_) (fun c1 => ?_)
  · exact absurd c1 (by decide)
  · refine va_gets hx hb hZ.1 hS hown (hts _ mF_0_93) (fun _ h => h) dX0_slotOf_8 ?_
    refine lv_iload_n hx hb dX0_slotOf_11 rfl (lv_at hl 0 rfl) ?_
    refine va_ti hx hb hZ.2.1 hS (jin (by decide)) (v := .int (hNum (0 : Int32).toNatClampNeg)) rfl dX0_slotOf_12 ?_
    refine lv_iload_n hx hb dX0_slotOf_13 rfl (lv_at hl 1 rfl) ?_
    refine lv_icmp_ne (tgt := 19) hx hb dX0_slotOf_14 (by decide) (fun c2 => ?_) (fun c2 => ?_)
    · refine lv_iinc (v := 1) (lv' := [(1, .int 1), (0, .int p1)]) hx hb dX0_slotOf_19 hl (k := 0) rfl (by decide) (by decide) rfl (fun ls hl => ?_)
      refine lv_goto (tgt := 2) hx hb dX0_slotOf_22 (by decide) ?_
      refine lv_iload_n hx hb dX0_slotOf_2 rfl (lv_at hl 0 rfl) ?_
      refine lv_bipush (v := 9) hx hb dX0_slotOf_3 (by decide) ?_
      refine lv_icmp_ge (tgt := 25) hx hb dX0_slotOf_5 (by decide) (fun c3 => ?_) (fun c3 => ?_)
      · exact absurd c3 (by decide)
      · refine va_gets hx hb hZ.1 hS hown (hts _ mF_0_93) (fun _ h => h) dX0_slotOf_8 ?_
        refine lv_iload_n hx hb dX0_slotOf_11 rfl (lv_at hl 0 rfl) ?_
        refine va_ti hx hb hZ.2.1 hS (jin (by decide)) (v := .int (hNum (1 : Int32).toNatClampNeg)) rfl dX0_slotOf_12 ?_
        refine lv_iload_n hx hb dX0_slotOf_13 rfl (lv_at hl 1 rfl) ?_
        refine lv_icmp_ne (tgt := 19) hx hb dX0_slotOf_14 (by decide) (fun c4 => ?_) (fun c4 => ?_)
        · refine lv_iinc (v := 2) (lv' := [(1, .int 2), (0, .int p1)]) hx hb dX0_slotOf_19 hl (k := 0) rfl (by decide) (by decide) rfl (fun ls hl => ?_)
          refine lv_goto (tgt := 2) hx hb dX0_slotOf_22 (by decide) ?_
          refine lv_iload_n hx hb dX0_slotOf_2 rfl (lv_at hl 0 rfl) ?_
          refine lv_bipush (v := 9) hx hb dX0_slotOf_3 (by decide) ?_
          refine lv_icmp_ge (tgt := 25) hx hb dX0_slotOf_5 (by decide) (fun c5 => ?_) (fun c5 => ?_)
          · exact absurd c5 (by decide)
          · refine va_gets hx hb hZ.1 hS hown (hts _ mF_0_93) (fun _ h => h) dX0_slotOf_8 ?_
            refine lv_iload_n hx hb dX0_slotOf_11 rfl (lv_at hl 0 rfl) ?_
            refine va_ti hx hb hZ.2.1 hS (jin (by decide)) (v := .int (hNum (2 : Int32).toNatClampNeg)) rfl dX0_slotOf_12 ?_
            refine lv_iload_n hx hb dX0_slotOf_13 rfl (lv_at hl 1 rfl) ?_
            refine lv_icmp_ne (tgt := 19) hx hb dX0_slotOf_14 (by decide) (fun c6 => ?_) (fun c6 => ?_)
            · refine lv_iinc (v := 3) (lv' := [(1, .int 3), (0, .int p1)]) hx hb dX0_slotOf_19 hl (k := 0) rfl (by decide) (by decide) rfl (fun ls hl => ?_)
              refine lv_goto (tgt := 2) hx hb dX0_slotOf_22 (by decide) ?_
              refine lv_iload_n hx hb dX0_slotOf_2 rfl (lv_at hl 0 rfl) ?_
              refine lv_bipush (v := 9) hx hb dX0_slotOf_3 (by decide) ?_
              refine lv_icmp_ge (tgt := 25) hx hb dX0_slotOf_5 (by decide) (fun c7 => ?_) (fun c7 => ?_)
              · exact absurd c7 (by decide)
              · refine va_gets hx hb hZ.1 hS hown (hts _ mF_0_93) (fun _ h => h) dX0_slotOf_8 ?_
                refine lv_iload_n hx hb dX0_slotOf_11 rfl (lv_at hl 0 rfl) ?_
                refine va_ti hx hb hZ.2.1 hS (jin (by decide)) (v := .int (hNum (3 : Int32).toNatClampNeg)) rfl dX0_slotOf_12 ?_
                refine lv_iload_n hx hb dX0_slotOf_13 rfl (lv_at hl 1 rfl) ?_
                refine lv_icmp_ne (tgt := 19) hx hb dX0_slotOf_14 (by decide) (fun c8 => ?_) (fun c8 => ?_)
                · refine lv_iinc (v := 4) (lv' := [(1, .int 4), (0, .int p1)]) hx hb dX0_slotOf_19 hl (k := 0) rfl (by decide) (by decide) rfl (fun ls hl => ?_)
                  refine lv_goto (tgt := 2) hx hb dX0_slotOf_22 (by decide) ?_
                  refine lv_iload_n hx hb dX0_slotOf_2 rfl (lv_at hl 0 rfl) ?_
                  refine lv_bipush (v := 9) hx hb dX0_slotOf_3 (by decide) ?_
                  refine lv_icmp_ge (tgt := 25) hx hb dX0_slotOf_5 (by decide) (fun c9 => ?_) (fun c9 => ?_)
                  · exact absurd c9 (by decide)
                  · refine va_gets hx hb hZ.1 hS hown (hts _ mF_0_93) (fun _ h => h) dX0_slotOf_8 ?_
                    refine lv_iload_n hx hb dX0_slotOf_11 rfl (lv_at hl 0 rfl) ?_
                    refine va_ti hx hb hZ.2.1 hS (jin (by decide)) (v := .int (hNum (4 : Int32).toNatClampNeg)) rfl dX0_slotOf_12 ?_
                    refine lv_iload_n hx hb dX0_slotOf_13 rfl (lv_at hl 1 rfl) ?_
                    refine lv_icmp_ne (tgt := 19) hx hb dX0_slotOf_14 (by decide) (fun c10 => ?_) (fun c10 => ?_)
                    · refine lv_iinc (v := 5) (lv' := [(1, .int 5), (0, .int p1)]) hx hb dX0_slotOf_19 hl (k := 0) rfl (by decide) (by decide) rfl (fun ls hl => ?_)
                      refine lv_goto (tgt := 2) hx hb dX0_slotOf_22 (by decide) ?_
                      refine lv_iload_n hx hb dX0_slotOf_2 rfl (lv_at hl 0 rfl) ?_
                      refine lv_bipush (v := 9) hx hb dX0_slotOf_3 (by decide) ?_
                      refine lv_icmp_ge (tgt := 25) hx hb dX0_slotOf_5 (by decide) (fun c11 => ?_) (fun c11 => ?_)
                      · exact absurd c11 (by decide)
                      · refine va_gets hx hb hZ.1 hS hown (hts _ mF_0_93) (fun _ h => h) dX0_slotOf_8 ?_
                        refine lv_iload_n hx hb dX0_slotOf_11 rfl (lv_at hl 0 rfl) ?_
                        refine va_ti hx hb hZ.2.1 hS (jin (by decide)) (v := .int (hNum (5 : Int32).toNatClampNeg)) rfl dX0_slotOf_12 ?_
                        refine lv_iload_n hx hb dX0_slotOf_13 rfl (lv_at hl 1 rfl) ?_
                        refine lv_icmp_ne (tgt := 19) hx hb dX0_slotOf_14 (by decide) (fun c12 => ?_) (fun c12 => ?_)
                        · refine lv_iinc (v := 6) (lv' := [(1, .int 6), (0, .int p1)]) hx hb dX0_slotOf_19 hl (k := 0) rfl (by decide) (by decide) rfl (fun ls hl => ?_)
                          refine lv_goto (tgt := 2) hx hb dX0_slotOf_22 (by decide) ?_
                          refine lv_iload_n hx hb dX0_slotOf_2 rfl (lv_at hl 0 rfl) ?_
                          refine lv_bipush (v := 9) hx hb dX0_slotOf_3 (by decide) ?_
                          refine lv_icmp_ge (tgt := 25) hx hb dX0_slotOf_5 (by decide) (fun c13 => ?_) (fun c13 => ?_)
                          · exact absurd c13 (by decide)
                          · refine va_gets hx hb hZ.1 hS hown (hts _ mF_0_93) (fun _ h => h) dX0_slotOf_8 ?_
                            refine lv_iload_n hx hb dX0_slotOf_11 rfl (lv_at hl 0 rfl) ?_
                            refine va_ti hx hb hZ.2.1 hS (jin (by decide)) (v := .int (hNum (6 : Int32).toNatClampNeg)) rfl dX0_slotOf_12 ?_
                            refine lv_iload_n hx hb dX0_slotOf_13 rfl (lv_at hl 1 rfl) ?_
                            refine lv_icmp_ne (tgt := 19) hx hb dX0_slotOf_14 (by decide) (fun c14 => ?_) (fun c14 => ?_)
                            · refine lv_iinc (v := 7) (lv' := [(1, .int 7), (0, .int p1)]) hx hb dX0_slotOf_19 hl (k := 0) rfl (by decide) (by decide) rfl (fun ls hl => ?_)
                              refine lv_goto (tgt := 2) hx hb dX0_slotOf_22 (by decide) ?_
                              refine lv_iload_n hx hb dX0_slotOf_2 rfl (lv_at hl 0 rfl) ?_
                              refine lv_bipush (v := 9) hx hb dX0_slotOf_3 (by decide) ?_
                              refine lv_icmp_ge (tgt := 25) hx hb dX0_slotOf_5 (by decide) (fun c15 => ?_) (fun c15 => ?_)
                              · exact absurd c15 (by decide)
                              · refine va_gets hx hb hZ.1 hS hown (hts _ mF_0_93) (fun _ h => h) dX0_slotOf_8 ?_
                                refine lv_iload_n hx hb dX0_slotOf_11 rfl (lv_at hl 0 rfl) ?_
                                refine va_ti hx hb hZ.2.1 hS (jin (by decide)) (v := .int (hNum (7 : Int32).toNatClampNeg)) rfl dX0_slotOf_12 ?_
                                refine lv_iload_n hx hb dX0_slotOf_13 rfl (lv_at hl 1 rfl) ?_
                                refine lv_icmp_ne (tgt := 19) hx hb dX0_slotOf_14 (by decide) (fun c16 => ?_) (fun c16 => ?_)
                                · refine lv_iinc (v := 8) (lv' := [(1, .int 8), (0, .int p1)]) hx hb dX0_slotOf_19 hl (k := 0) rfl (by decide) (by decide) rfl (fun ls hl => ?_)
                                  refine lv_goto (tgt := 2) hx hb dX0_slotOf_22 (by decide) ?_
                                  refine lv_iload_n hx hb dX0_slotOf_2 rfl (lv_at hl 0 rfl) ?_
                                  refine lv_bipush (v := 9) hx hb dX0_slotOf_3 (by decide) ?_
                                  refine lv_icmp_ge (tgt := 25) hx hb dX0_slotOf_5 (by decide) (fun c17 => ?_) (fun c17 => ?_)
                                  · exact absurd c17 (by decide)
                                  · refine va_gets hx hb hZ.1 hS hown (hts _ mF_0_93) (fun _ h => h) dX0_slotOf_8 ?_
                                    refine lv_iload_n hx hb dX0_slotOf_11 rfl (lv_at hl 0 rfl) ?_
                                    refine va_ti hx hb hZ.2.1 hS (jin (by decide)) (v := .int (hNum (8 : Int32).toNatClampNeg)) rfl dX0_slotOf_12 ?_
                                    refine lv_iload_n hx hb dX0_slotOf_13 rfl (lv_at hl 1 rfl) ?_
                                    refine lv_icmp_ne (tgt := 19) hx hb dX0_slotOf_14 (by decide) (fun c18 => ?_) (fun c18 => ?_)
                                    · refine lv_iinc (v := 9) (lv' := [(1, .int 9), (0, .int p1)]) hx hb dX0_slotOf_19 hl (k := 0) rfl (by decide) (by decide) rfl (fun ls hl => ?_)
                                      refine lv_goto (tgt := 2) hx hb dX0_slotOf_22 (by decide) ?_
                                      refine lv_iload_n hx hb dX0_slotOf_2 rfl (lv_at hl 0 rfl) ?_
                                      refine lv_bipush (v := 9) hx hb dX0_slotOf_3 (by decide) ?_
                                      refine lv_icmp_ge (tgt := 25) hx hb dX0_slotOf_5 (by decide) (fun c19 => ?_) (fun c19 => ?_)
                                      · refine lv_iconst (v := (-1)) hx hb dX0_slotOf_25 (by decide) ?_
                                        exact W.iret (v := (-1)) hx hb hr (fun t ht hW => ⟨jq (by exact (((if_neg c2).trans ((if_neg c4).trans ((if_neg c6).trans ((if_neg c8).trans ((if_neg c10).trans ((if_neg c12).trans ((if_neg c14).trans ((if_neg c16).trans ((if_neg c18).trans rfl)))))))))).symm), ht⟩) (fun q h => by cases h) dX0_slotOf_26
                                      · exact (c19 (by decide)).elim
                                    · refine lv_iload_n hx hb dX0_slotOf_17 rfl (lv_at hl 0 rfl) ?_
                                      exact W.iret (v := 8) hx hb hr (fun t ht hW => ⟨jq (by exact (((if_neg c2).trans ((if_neg c4).trans ((if_neg c6).trans ((if_neg c8).trans ((if_neg c10).trans ((if_neg c12).trans ((if_neg c14).trans ((if_neg c16).trans ((if_pos c18).trans rfl)))))))))).symm), ht⟩) (fun q h => by cases h) dX0_slotOf_18
                                · refine lv_iload_n hx hb dX0_slotOf_17 rfl (lv_at hl 0 rfl) ?_
                                  exact W.iret (v := 7) hx hb hr (fun t ht hW => ⟨jq (by exact (((if_neg c2).trans ((if_neg c4).trans ((if_neg c6).trans ((if_neg c8).trans ((if_neg c10).trans ((if_neg c12).trans ((if_neg c14).trans ((if_pos c16).trans rfl))))))))).symm), ht⟩) (fun q h => by cases h) dX0_slotOf_18
                            · refine lv_iload_n hx hb dX0_slotOf_17 rfl (lv_at hl 0 rfl) ?_
                              exact W.iret (v := 6) hx hb hr (fun t ht hW => ⟨jq (by exact (((if_neg c2).trans ((if_neg c4).trans ((if_neg c6).trans ((if_neg c8).trans ((if_neg c10).trans ((if_neg c12).trans ((if_pos c14).trans rfl)))))))).symm), ht⟩) (fun q h => by cases h) dX0_slotOf_18
                        · refine lv_iload_n hx hb dX0_slotOf_17 rfl (lv_at hl 0 rfl) ?_
                          exact W.iret (v := 5) hx hb hr (fun t ht hW => ⟨jq (by exact (((if_neg c2).trans ((if_neg c4).trans ((if_neg c6).trans ((if_neg c8).trans ((if_neg c10).trans ((if_pos c12).trans rfl))))))).symm), ht⟩) (fun q h => by cases h) dX0_slotOf_18
                    · refine lv_iload_n hx hb dX0_slotOf_17 rfl (lv_at hl 0 rfl) ?_
                      exact W.iret (v := 4) hx hb hr (fun t ht hW => ⟨jq (by exact (((if_neg c2).trans ((if_neg c4).trans ((if_neg c6).trans ((if_neg c8).trans ((if_pos c10).trans rfl)))))).symm), ht⟩) (fun q h => by cases h) dX0_slotOf_18
                · refine lv_iload_n hx hb dX0_slotOf_17 rfl (lv_at hl 0 rfl) ?_
                  exact W.iret (v := 3) hx hb hr (fun t ht hW => ⟨jq (by exact (((if_neg c2).trans ((if_neg c4).trans ((if_neg c6).trans ((if_pos c8).trans rfl))))).symm), ht⟩) (fun q h => by cases h) dX0_slotOf_18
            · refine lv_iload_n hx hb dX0_slotOf_17 rfl (lv_at hl 0 rfl) ?_
              exact W.iret (v := 2) hx hb hr (fun t ht hW => ⟨jq (by exact (((if_neg c2).trans ((if_neg c4).trans ((if_pos c6).trans rfl)))).symm), ht⟩) (fun q h => by cases h) dX0_slotOf_18
        · refine lv_iload_n hx hb dX0_slotOf_17 rfl (lv_at hl 0 rfl) ?_
          exact W.iret (v := 1) hx hb hr (fun t ht hW => ⟨jq (by exact (((if_neg c2).trans ((if_pos c4).trans rfl))).symm), ht⟩) (fun q h => by cases h) dX0_slotOf_18
    · refine lv_iload_n hx hb dX0_slotOf_17 rfl (lv_at hl 0 rfl) ?_
      exact W.iret (v := 0) hx hb hr (fun t ht hW => ⟨jq (by exact (((if_pos c2).trans rfl)).symm), ht⟩) (fun q h => by cases h) dX0_slotOf_18
theorem h_in3 {a : Int32} (h : 0 ≤ h_slotOf a) : vp_in (h_slotOf a) 9 := by
  revert h
  unfold h_slotOf
  (repeat' split) <;> intro h <;> first | exact jin (by decide) | exact absurd h (by decide)

def h_permits (st : HS) (p1 : Int32) (p2 : Int32) : Int32 :=
  if p2 = 0 then
    let x27 : Int32 := (65 : Int32) ||| (8 : Int32)
    if (p1 &&& (6 : Int32)) = (4 : Int32) then
      (0 : Int32)
    else
      if (p1 &&& x27) = x27 then
        if (p1 &&& (16 : Int32)) = 0 then
          if st.2.2.2.2.1 = 0 then
            (0 : Int32)
          else
            (1 : Int32)
        else
          if st.2.2.2.2.1 = 0 then
            (1 : Int32)
          else
            if p2 = 0 then
              (0 : Int32)
            else
              if ((st.2.2.1 (0 : Int32).toNatClampNeg) &&& (262144 : Int32)) = 0 then
                (0 : Int32)
              else
                (1 : Int32)
      else
        (0 : Int32)
  else
    if p2 = (1 : Int32) then
      let x15 : Int32 := (65 : Int32) ||| (2 : Int32)
      if (p1 &&& (6 : Int32)) = (4 : Int32) then
        (0 : Int32)
      else
        if (p1 &&& x15) = x15 then
          if (p1 &&& (16 : Int32)) = 0 then
            if st.2.2.2.2.1 = 0 then
              (0 : Int32)
            else
              (1 : Int32)
          else
            if st.2.2.2.2.1 = 0 then
              (1 : Int32)
            else
              if p2 = 0 then
                (0 : Int32)
              else
                if ((st.2.2.1 (0 : Int32).toNatClampNeg) &&& (262144 : Int32)) = 0 then
                  (0 : Int32)
                else
                  (1 : Int32)
        else
          (0 : Int32)
    else
      let x3 : Int32 := (65 : Int32) ||| (132 : Int32)
      if (p1 &&& (6 : Int32)) = (4 : Int32) then
        (0 : Int32)
      else
        if (p1 &&& x3) = x3 then
          if (p1 &&& (16 : Int32)) = 0 then
            if st.2.2.2.2.1 = 0 then
              (0 : Int32)
            else
              (1 : Int32)
          else
            if st.2.2.2.2.1 = 0 then
              (1 : Int32)
            else
              if p2 = 0 then
                (0 : Int32)
              else
                if ((st.2.2.1 (0 : Int32).toNatClampNeg) &&& (262144 : Int32)) = 0 then
                  (0 : Int32)
                else
                  (1 : Int32)
        else
          (0 : Int32)
set_option maxHeartbeats 4000000 in
set_option maxRecDepth 100000 in
theorem ch_permits (l : Launch) (dC : Nat → ClassId) (dI : Nat → Nat → Nat) (cI h0 qme0 qre1 qco2 tN tB : Nat) (sz : Nat) (st : HS) (p1 : Int32) (p2 : Int32)  : Met l yX0_permits (.code yX0_permits cX0_permits 6 (some .boolean) :: gBIG) ({ frames := 0, cells := 0, slots := 0, locals := 0 }) (va_Pc [.ref h0, .int p1, .int p2] (gPre dC dI cI h0 qme0 qre1 qco2 tN tB sz st)) (QcRead (h_permits st p1 p2)) 0 0 (fun _ => False) := by
  refine Met.ofW (cc := cX0_permits) (maxL := 6) (ret := (some .boolean)) (by decide) rfl ?_
  intro p e s m args below meth c s₁ B hml hv
  obtain ⟨rfl, hsz, hP, hK, hD0, hZ⟩ := hv
  have hx := B.exec
  have hb := B.bytes
  have hr := B.returns
  have hts : ∀ w ∈ gBIG, w.before _ s = true := fun w h => atoms_spec (ws := (.code yX0_permits cX0_permits 6 (some .boolean) :: gBIG)) B.pre w (List.mem_cons_of_mem _ h)
  have hown : s.vm.findClass "PagedHart" = some m.cls := findClass_of_methodNamed B.named
  have hlocks := B.notSynchronized
  subst hsz
  have hD : va_D (gA h0 qme0 qre1 qco2 s.heap.size) (gW cI h0 qme0 qre1 qco2 st) := gD hD0
  have hS : va_S (gA h0 qme0 qre1 qco2 s.heap.size) s.heap s.heap [] := va_S.rf
  have hP : va_P (dC, dI) vwCl (gW cI h0 qme0 qre1 qco2 st) s.heap := hP
  have hl := lv_entry ([.ref h0, .int p1, .int p2]) (n := 6) (Nat.le_of_ble_eq_true rfl)
  rw [lg_entry_eq]
  generalize (lg_sl ([.ref h0, .int p1, .int p2]) ++ List.replicate (6 - (lg_sl ([.ref h0, .int p1, .int p2])).length) Slot.unset).toArray = ls at hl ⊢
  refine jgo (P := fun H locs => va_P (dC, dI) vwCl (gW cI h0 qme0 qre1 qco2 st) H ∧ va_S (gA h0 qme0 qre1 qco2 s.heap.size) s.heap H locs ∧ H = s.heap ∧ ∀ q ∈ locs, False) ⟨hP, hS, rfl, fun q h => by cases h⟩ (fun H locs hPS => ?_)
  obtain ⟨hP, hS, hHe, hN⟩ := hPS
  have hl : lv_has ls 6 [(0, .ref h0), (1, .int p1), (2, .int p2)] := hl
  refine lv_bipush (v := 65) hx hb dX0_permits_0 (by decide) ?_
  refine lv_istore_n (lv' := [(3, .int 65), (0, .ref h0), (1, .int p1), (2, .int p2)]) hx hb dX0_permits_2 rfl hl (by decide) rfl (fun ls hl => ?_)
  refine lv_iload_n hx hb dX0_permits_3 rfl (lv_at hl 3 rfl) ?_
  refine lv_if_ne (tgt := 15) hx hb dX0_permits_4 (by decide) (fun c1 => ?_) (fun c1 => ?_)
  · refine lv_iload_n hx hb dX0_permits_15 rfl (lv_at hl 3 rfl) ?_
    refine lv_iconst (v := 1) hx hb dX0_permits_16 (by decide) ?_
    refine lv_icmp_ne (tgt := 27) hx hb dX0_permits_17 (by decide) (fun c2 => ?_) (fun c2 => ?_)
    · refine lv_iload_n hx hb dX0_permits_27 rfl (lv_at hl 0 rfl) ?_
      refine lv_sipush (v := 132) hx hb dX0_permits_28 (by decide) ?_
      refine lv_ior hx hb dX0_permits_31 ?_
      refine lv_topi (fun x3 ex3 => ?_)
      refine lv_istore_n (lv' := [(3, .int x3), (0, .ref h0), (1, .int p1), (2, .int p2)]) hx hb dX0_permits_32 rfl hl (by decide) rfl (fun ls hl => ?_)
      refine lv_iload_n hx hb dX0_permits_33 rfl (lv_at hl 2 rfl) ?_
      refine lv_bipush (v := 6) hx hb dX0_permits_34 (by decide) ?_
      refine lv_iand hx hb dX0_permits_36 ?_
      refine lv_iconst (v := 4) hx hb dX0_permits_37 (by decide) ?_
      refine lv_icmp_ne (tgt := 45) hx hb dX0_permits_38 (by decide) (fun c4 => ?_) (fun c4 => ?_)
      · refine lv_iconst (v := 0) hx hb dX0_permits_45 (by decide) ?_
        refine lv_istore (lv' := [(4, .int 0), (3, .int x3), (0, .ref h0), (1, .int p1), (2, .int p2)]) hx hb dX0_permits_46 hl (by decide) rfl (fun ls hl => ?_)
        refine lv_iload hx hb dX0_permits_48 (lv_at hl 0 rfl) ?_
        refine lv_if_ne (tgt := 60) hx hb dX0_permits_50 (by decide) (fun c5 => ?_) (fun c5 => ?_)
        · exact (c5 (by decide)).elim
        · refine lv_iload_n hx hb dX0_permits_53 rfl (lv_at hl 3 rfl) ?_
          refine lv_iload_n hx hb dX0_permits_54 rfl (lv_at hl 1 rfl) ?_
          refine lv_iand hx hb dX0_permits_55 ?_
          refine lv_iload_n hx hb dX0_permits_56 rfl (lv_at hl 1 rfl) ?_
          refine lv_icmp_eq (tgt := 62) hx hb dX0_permits_57 (by decide) (fun c6 => ?_) (fun c6 => ?_)
          · refine lv_iload_n hx hb dX0_permits_62 rfl (lv_at hl 3 rfl) ?_
            refine lv_bipush (v := 16) hx hb dX0_permits_63 (by decide) ?_
            refine lv_iand hx hb dX0_permits_65 ?_
            refine lv_if_eq (tgt := 73) hx hb dX0_permits_66 (by decide) (fun c7 => ?_) (fun c7 => ?_)
            · refine lv_iconst (v := 0) hx hb dX0_permits_73 (by decide) ?_
              refine lv_istore (lv' := [(5, .int 0), (4, .int 0), (3, .int x3), (0, .ref h0), (1, .int p1), (2, .int p2)]) hx hb dX0_permits_74 hl (by decide) rfl (fun ls hl => ?_)
              refine lv_aload_n hx hb dX0_permits_76 rfl (lv_at hl 3 rfl) ?_
              refine va_get (D := (dC, dI)) (ci := 0) (v := .int st.2.2.2.2.1) (C := "PagedHart") (T := TX0) (N := 6) hx hb hts mU0 hown hK hP 0 rfl rfl 4 (by decide) (hts _ mF_0_24) (fun _ h9 => h9) rfl dX0_permits_77 ?_
              refine lv_if_ne (tgt := 86) hx hb dX0_permits_80 (by decide) (fun c8 => ?_) (fun c8 => ?_)
              · refine lv_iload hx hb dX0_permits_86 (lv_at hl 0 rfl) ?_
                refine lv_if_eq (tgt := 107) hx hb dX0_permits_88 (by decide) (fun c9 => ?_) (fun c9 => ?_)
                · refine lv_iconst (v := 1) hx hb dX0_permits_107 (by decide) ?_
                  refine lv_goto (tgt := 112) hx hb dX0_permits_108 (by decide) ?_
                  exact W.zret (v := 1) hx hb hr rfl (fun t ht hW => ⟨jq (by subst ex3; exact (((if_neg c1).trans ((if_neg c2).trans ((if_neg c4).trans ((if_pos c6).trans ((if_pos c7).trans ((if_neg c8).trans rfl))))))).symm), ht.trans hHe⟩) (fun q h => (hN q h).elim) dX0_permits_112
                · exact (c9 (by decide)).elim
              · refine lv_iload hx hb dX0_permits_83 (lv_at hl 0 rfl) ?_
                exact W.zret (v := 0) hx hb hr rfl (fun t ht hW => ⟨jq (by subst ex3; exact (((if_neg c1).trans ((if_neg c2).trans ((if_neg c4).trans ((if_pos c6).trans ((if_pos c7).trans ((if_pos c8).trans rfl))))))).symm), ht.trans hHe⟩) (fun q h => (hN q h).elim) dX0_permits_85
            · refine lv_iconst (v := 1) hx hb dX0_permits_69 (by decide) ?_
              refine lv_goto (tgt := 74) hx hb dX0_permits_70 (by decide) ?_
              refine lv_istore (lv' := [(5, .int 1), (4, .int 0), (3, .int x3), (0, .ref h0), (1, .int p1), (2, .int p2)]) hx hb dX0_permits_74 hl (by decide) rfl (fun ls hl => ?_)
              refine lv_aload_n hx hb dX0_permits_76 rfl (lv_at hl 3 rfl) ?_
              refine va_get (D := (dC, dI)) (ci := 0) (v := .int st.2.2.2.2.1) (C := "PagedHart") (T := TX0) (N := 6) hx hb hts mU0 hown hK hP 0 rfl rfl 4 (by decide) (hts _ mF_0_24) (fun _ h9 => h9) rfl dX0_permits_77 ?_
              refine lv_if_ne (tgt := 86) hx hb dX0_permits_80 (by decide) (fun c10 => ?_) (fun c10 => ?_)
              · refine lv_iload hx hb dX0_permits_86 (lv_at hl 0 rfl) ?_
                refine lv_if_eq (tgt := 107) hx hb dX0_permits_88 (by decide) (fun c11 => ?_) (fun c11 => ?_)
                · exact absurd c11 (by decide)
                · refine lv_iload_n hx hb dX0_permits_91 rfl (lv_at hl 5 rfl) ?_
                  refine lv_if_eq (tgt := 111) hx hb dX0_permits_92 (by decide) (fun c12 => ?_) (fun c12 => ?_)
                  · refine lv_iconst (v := 0) hx hb dX0_permits_111 (by decide) ?_
                    exact W.zret (v := 0) hx hb hr rfl (fun t ht hW => ⟨jq (by subst ex3; exact (((if_neg c1).trans ((if_neg c2).trans ((if_neg c4).trans ((if_pos c6).trans ((if_neg c7).trans ((if_neg c10).trans ((if_pos c12).trans rfl)))))))).symm), ht.trans hHe⟩) (fun q h => (hN q h).elim) dX0_permits_112
                  · refine lv_aload_n hx hb dX0_permits_95 rfl (lv_at hl 3 rfl) ?_
                    refine va_get (D := (dC, dI)) (ci := 0) (v := .ref qco2) (C := "PagedHart") (T := TX0) (N := 6) hx hb hts mU0 hown hK hP 0 rfl rfl 2 (by decide) (hts _ mF_0_17) (fun _ h9 => h9) rfl dX0_permits_96 ?_
                    refine lv_iconst (v := 0) hx hb dX0_permits_99 (by decide) ?_
                    refine va_iald (D := (dC, dI)) hx hb hK hP 3 0 rfl rfl (jin (by decide)) dX0_permits_100 ?_
                    refine lv_ldc (v := 262144) hx hb hown (hts _ mC_0_72) dX0_permits_101 ?_
                    refine lv_iand hx hb dX0_permits_103 ?_
                    refine lv_if_eq (tgt := 111) hx hb dX0_permits_104 (by decide) (fun c13 => ?_) (fun c13 => ?_)
                    · refine lv_iconst (v := 0) hx hb dX0_permits_111 (by decide) ?_
                      exact W.zret (v := 0) hx hb hr rfl (fun t ht hW => ⟨jq (by subst ex3; exact (((if_neg c1).trans ((if_neg c2).trans ((if_neg c4).trans ((if_pos c6).trans ((if_neg c7).trans ((if_neg c10).trans ((if_neg c12).trans ((if_pos c13).trans rfl))))))))).symm), ht.trans hHe⟩) (fun q h => (hN q h).elim) dX0_permits_112
                    · refine lv_iconst (v := 1) hx hb dX0_permits_107 (by decide) ?_
                      refine lv_goto (tgt := 112) hx hb dX0_permits_108 (by decide) ?_
                      exact W.zret (v := 1) hx hb hr rfl (fun t ht hW => ⟨jq (by subst ex3; exact (((if_neg c1).trans ((if_neg c2).trans ((if_neg c4).trans ((if_pos c6).trans ((if_neg c7).trans ((if_neg c10).trans ((if_neg c12).trans ((if_neg c13).trans rfl))))))))).symm), ht.trans hHe⟩) (fun q h => (hN q h).elim) dX0_permits_112
              · refine lv_iload hx hb dX0_permits_83 (lv_at hl 0 rfl) ?_
                exact W.zret (v := 1) hx hb hr rfl (fun t ht hW => ⟨jq (by subst ex3; exact (((if_neg c1).trans ((if_neg c2).trans ((if_neg c4).trans ((if_pos c6).trans ((if_neg c7).trans ((if_pos c10).trans rfl))))))).symm), ht.trans hHe⟩) (fun q h => (hN q h).elim) dX0_permits_85
          · refine lv_iconst (v := 0) hx hb dX0_permits_60 (by decide) ?_
            exact W.zret (v := 0) hx hb hr rfl (fun t ht hW => ⟨jq (by subst ex3; exact (((if_neg c1).trans ((if_neg c2).trans ((if_neg c4).trans ((if_neg c6).trans rfl))))).symm), ht.trans hHe⟩) (fun q h => (hN q h).elim) dX0_permits_61
      · refine lv_iconst (v := 1) hx hb dX0_permits_41 (by decide) ?_
        refine lv_goto (tgt := 46) hx hb dX0_permits_42 (by decide) ?_
        refine lv_istore (lv' := [(4, .int 1), (3, .int x3), (0, .ref h0), (1, .int p1), (2, .int p2)]) hx hb dX0_permits_46 hl (by decide) rfl (fun ls hl => ?_)
        refine lv_iload hx hb dX0_permits_48 (lv_at hl 0 rfl) ?_
        refine lv_if_ne (tgt := 60) hx hb dX0_permits_50 (by decide) (fun c14 => ?_) (fun c14 => ?_)
        · refine lv_iconst (v := 0) hx hb dX0_permits_60 (by decide) ?_
          exact W.zret (v := 0) hx hb hr rfl (fun t ht hW => ⟨jq (by subst ex3; exact (((if_neg c1).trans ((if_neg c2).trans ((if_pos c4).trans rfl)))).symm), ht.trans hHe⟩) (fun q h => (hN q h).elim) dX0_permits_61
        · exact absurd c14 (by decide)
    · refine lv_iload_n hx hb dX0_permits_20 rfl (lv_at hl 0 rfl) ?_
      refine lv_iconst (v := 2) hx hb dX0_permits_21 (by decide) ?_
      refine lv_ior hx hb dX0_permits_22 ?_
      refine lv_topi (fun x15 ex15 => ?_)
      refine lv_istore_n (lv' := [(3, .int x15), (0, .ref h0), (1, .int p1), (2, .int p2)]) hx hb dX0_permits_23 rfl hl (by decide) rfl (fun ls hl => ?_)
      refine lv_goto (tgt := 33) hx hb dX0_permits_24 (by decide) ?_
      refine lv_iload_n hx hb dX0_permits_33 rfl (lv_at hl 2 rfl) ?_
      refine lv_bipush (v := 6) hx hb dX0_permits_34 (by decide) ?_
      refine lv_iand hx hb dX0_permits_36 ?_
      refine lv_iconst (v := 4) hx hb dX0_permits_37 (by decide) ?_
      refine lv_icmp_ne (tgt := 45) hx hb dX0_permits_38 (by decide) (fun c16 => ?_) (fun c16 => ?_)
      · refine lv_iconst (v := 0) hx hb dX0_permits_45 (by decide) ?_
        refine lv_istore (lv' := [(4, .int 0), (3, .int x15), (0, .ref h0), (1, .int p1), (2, .int p2)]) hx hb dX0_permits_46 hl (by decide) rfl (fun ls hl => ?_)
        refine lv_iload hx hb dX0_permits_48 (lv_at hl 0 rfl) ?_
        refine lv_if_ne (tgt := 60) hx hb dX0_permits_50 (by decide) (fun c17 => ?_) (fun c17 => ?_)
        · exact (c17 (by decide)).elim
        · refine lv_iload_n hx hb dX0_permits_53 rfl (lv_at hl 3 rfl) ?_
          refine lv_iload_n hx hb dX0_permits_54 rfl (lv_at hl 1 rfl) ?_
          refine lv_iand hx hb dX0_permits_55 ?_
          refine lv_iload_n hx hb dX0_permits_56 rfl (lv_at hl 1 rfl) ?_
          refine lv_icmp_eq (tgt := 62) hx hb dX0_permits_57 (by decide) (fun c18 => ?_) (fun c18 => ?_)
          · refine lv_iload_n hx hb dX0_permits_62 rfl (lv_at hl 3 rfl) ?_
            refine lv_bipush (v := 16) hx hb dX0_permits_63 (by decide) ?_
            refine lv_iand hx hb dX0_permits_65 ?_
            refine lv_if_eq (tgt := 73) hx hb dX0_permits_66 (by decide) (fun c19 => ?_) (fun c19 => ?_)
            · refine lv_iconst (v := 0) hx hb dX0_permits_73 (by decide) ?_
              refine lv_istore (lv' := [(5, .int 0), (4, .int 0), (3, .int x15), (0, .ref h0), (1, .int p1), (2, .int p2)]) hx hb dX0_permits_74 hl (by decide) rfl (fun ls hl => ?_)
              refine lv_aload_n hx hb dX0_permits_76 rfl (lv_at hl 3 rfl) ?_
              refine va_get (D := (dC, dI)) (ci := 0) (v := .int st.2.2.2.2.1) (C := "PagedHart") (T := TX0) (N := 6) hx hb hts mU0 hown hK hP 0 rfl rfl 4 (by decide) (hts _ mF_0_24) (fun _ h9 => h9) rfl dX0_permits_77 ?_
              refine lv_if_ne (tgt := 86) hx hb dX0_permits_80 (by decide) (fun c20 => ?_) (fun c20 => ?_)
              · refine lv_iload hx hb dX0_permits_86 (lv_at hl 0 rfl) ?_
                refine lv_if_eq (tgt := 107) hx hb dX0_permits_88 (by decide) (fun c21 => ?_) (fun c21 => ?_)
                · refine lv_iconst (v := 1) hx hb dX0_permits_107 (by decide) ?_
                  refine lv_goto (tgt := 112) hx hb dX0_permits_108 (by decide) ?_
                  exact W.zret (v := 1) hx hb hr rfl (fun t ht hW => ⟨jq (by subst ex15; exact (((if_neg c1).trans ((if_pos c2).trans ((if_neg c16).trans ((if_pos c18).trans ((if_pos c19).trans ((if_neg c20).trans rfl))))))).symm), ht.trans hHe⟩) (fun q h => (hN q h).elim) dX0_permits_112
                · exact (c21 (by decide)).elim
              · refine lv_iload hx hb dX0_permits_83 (lv_at hl 0 rfl) ?_
                exact W.zret (v := 0) hx hb hr rfl (fun t ht hW => ⟨jq (by subst ex15; exact (((if_neg c1).trans ((if_pos c2).trans ((if_neg c16).trans ((if_pos c18).trans ((if_pos c19).trans ((if_pos c20).trans rfl))))))).symm), ht.trans hHe⟩) (fun q h => (hN q h).elim) dX0_permits_85
            · refine lv_iconst (v := 1) hx hb dX0_permits_69 (by decide) ?_
              refine lv_goto (tgt := 74) hx hb dX0_permits_70 (by decide) ?_
              refine lv_istore (lv' := [(5, .int 1), (4, .int 0), (3, .int x15), (0, .ref h0), (1, .int p1), (2, .int p2)]) hx hb dX0_permits_74 hl (by decide) rfl (fun ls hl => ?_)
              refine lv_aload_n hx hb dX0_permits_76 rfl (lv_at hl 3 rfl) ?_
              refine va_get (D := (dC, dI)) (ci := 0) (v := .int st.2.2.2.2.1) (C := "PagedHart") (T := TX0) (N := 6) hx hb hts mU0 hown hK hP 0 rfl rfl 4 (by decide) (hts _ mF_0_24) (fun _ h9 => h9) rfl dX0_permits_77 ?_
              refine lv_if_ne (tgt := 86) hx hb dX0_permits_80 (by decide) (fun c22 => ?_) (fun c22 => ?_)
              · refine lv_iload hx hb dX0_permits_86 (lv_at hl 0 rfl) ?_
                refine lv_if_eq (tgt := 107) hx hb dX0_permits_88 (by decide) (fun c23 => ?_) (fun c23 => ?_)
                · exact absurd c23 (by decide)
                · refine lv_iload_n hx hb dX0_permits_91 rfl (lv_at hl 5 rfl) ?_
                  refine lv_if_eq (tgt := 111) hx hb dX0_permits_92 (by decide) (fun c24 => ?_) (fun c24 => ?_)
                  · refine lv_iconst (v := 0) hx hb dX0_permits_111 (by decide) ?_
                    exact W.zret (v := 0) hx hb hr rfl (fun t ht hW => ⟨jq (by subst ex15; exact (((if_neg c1).trans ((if_pos c2).trans ((if_neg c16).trans ((if_pos c18).trans ((if_neg c19).trans ((if_neg c22).trans ((if_pos c24).trans rfl)))))))).symm), ht.trans hHe⟩) (fun q h => (hN q h).elim) dX0_permits_112
                  · refine lv_aload_n hx hb dX0_permits_95 rfl (lv_at hl 3 rfl) ?_
                    refine va_get (D := (dC, dI)) (ci := 0) (v := .ref qco2) (C := "PagedHart") (T := TX0) (N := 6) hx hb hts mU0 hown hK hP 0 rfl rfl 2 (by decide) (hts _ mF_0_17) (fun _ h9 => h9) rfl dX0_permits_96 ?_
                    refine lv_iconst (v := 0) hx hb dX0_permits_99 (by decide) ?_
                    refine va_iald (D := (dC, dI)) hx hb hK hP 3 0 rfl rfl (jin (by decide)) dX0_permits_100 ?_
                    refine lv_ldc (v := 262144) hx hb hown (hts _ mC_0_72) dX0_permits_101 ?_
                    refine lv_iand hx hb dX0_permits_103 ?_
                    refine lv_if_eq (tgt := 111) hx hb dX0_permits_104 (by decide) (fun c25 => ?_) (fun c25 => ?_)
                    · refine lv_iconst (v := 0) hx hb dX0_permits_111 (by decide) ?_
                      exact W.zret (v := 0) hx hb hr rfl (fun t ht hW => ⟨jq (by subst ex15; exact (((if_neg c1).trans ((if_pos c2).trans ((if_neg c16).trans ((if_pos c18).trans ((if_neg c19).trans ((if_neg c22).trans ((if_neg c24).trans ((if_pos c25).trans rfl))))))))).symm), ht.trans hHe⟩) (fun q h => (hN q h).elim) dX0_permits_112
                    · refine lv_iconst (v := 1) hx hb dX0_permits_107 (by decide) ?_
                      refine lv_goto (tgt := 112) hx hb dX0_permits_108 (by decide) ?_
                      exact W.zret (v := 1) hx hb hr rfl (fun t ht hW => ⟨jq (by subst ex15; exact (((if_neg c1).trans ((if_pos c2).trans ((if_neg c16).trans ((if_pos c18).trans ((if_neg c19).trans ((if_neg c22).trans ((if_neg c24).trans ((if_neg c25).trans rfl))))))))).symm), ht.trans hHe⟩) (fun q h => (hN q h).elim) dX0_permits_112
              · refine lv_iload hx hb dX0_permits_83 (lv_at hl 0 rfl) ?_
                exact W.zret (v := 1) hx hb hr rfl (fun t ht hW => ⟨jq (by subst ex15; exact (((if_neg c1).trans ((if_pos c2).trans ((if_neg c16).trans ((if_pos c18).trans ((if_neg c19).trans ((if_pos c22).trans rfl))))))).symm), ht.trans hHe⟩) (fun q h => (hN q h).elim) dX0_permits_85
          · refine lv_iconst (v := 0) hx hb dX0_permits_60 (by decide) ?_
            exact W.zret (v := 0) hx hb hr rfl (fun t ht hW => ⟨jq (by subst ex15; exact (((if_neg c1).trans ((if_pos c2).trans ((if_neg c16).trans ((if_neg c18).trans rfl))))).symm), ht.trans hHe⟩) (fun q h => (hN q h).elim) dX0_permits_61
      · refine lv_iconst (v := 1) hx hb dX0_permits_41 (by decide) ?_
        refine lv_goto (tgt := 46) hx hb dX0_permits_42 (by decide) ?_
        refine lv_istore (lv' := [(4, .int 1), (3, .int x15), (0, .ref h0), (1, .int p1), (2, .int p2)]) hx hb dX0_permits_46 hl (by decide) rfl (fun ls hl => ?_)
        refine lv_iload hx hb dX0_permits_48 (lv_at hl 0 rfl) ?_
        refine lv_if_ne (tgt := 60) hx hb dX0_permits_50 (by decide) (fun c26 => ?_) (fun c26 => ?_)
        · refine lv_iconst (v := 0) hx hb dX0_permits_60 (by decide) ?_
          exact W.zret (v := 0) hx hb hr rfl (fun t ht hW => ⟨jq (by subst ex15; exact (((if_neg c1).trans ((if_pos c2).trans ((if_pos c16).trans rfl)))).symm), ht.trans hHe⟩) (fun q h => (hN q h).elim) dX0_permits_61
        · exact absurd c26 (by decide)
  · refine lv_iload_n hx hb dX0_permits_7 rfl (lv_at hl 0 rfl) ?_
    refine lv_bipush (v := 8) hx hb dX0_permits_8 (by decide) ?_
    refine lv_ior hx hb dX0_permits_10 ?_
    refine lv_topi (fun x27 ex27 => ?_)
    refine lv_istore_n (lv' := [(3, .int x27), (0, .ref h0), (1, .int p1), (2, .int p2)]) hx hb dX0_permits_11 rfl hl (by decide) rfl (fun ls hl => ?_)
    refine lv_goto (tgt := 33) hx hb dX0_permits_12 (by decide) ?_
    refine lv_iload_n hx hb dX0_permits_33 rfl (lv_at hl 2 rfl) ?_
    refine lv_bipush (v := 6) hx hb dX0_permits_34 (by decide) ?_
    refine lv_iand hx hb dX0_permits_36 ?_
    refine lv_iconst (v := 4) hx hb dX0_permits_37 (by decide) ?_
    refine lv_icmp_ne (tgt := 45) hx hb dX0_permits_38 (by decide) (fun c28 => ?_) (fun c28 => ?_)
    · refine lv_iconst (v := 0) hx hb dX0_permits_45 (by decide) ?_
      refine lv_istore (lv' := [(4, .int 0), (3, .int x27), (0, .ref h0), (1, .int p1), (2, .int p2)]) hx hb dX0_permits_46 hl (by decide) rfl (fun ls hl => ?_)
      refine lv_iload hx hb dX0_permits_48 (lv_at hl 0 rfl) ?_
      refine lv_if_ne (tgt := 60) hx hb dX0_permits_50 (by decide) (fun c29 => ?_) (fun c29 => ?_)
      · exact (c29 (by decide)).elim
      · refine lv_iload_n hx hb dX0_permits_53 rfl (lv_at hl 3 rfl) ?_
        refine lv_iload_n hx hb dX0_permits_54 rfl (lv_at hl 1 rfl) ?_
        refine lv_iand hx hb dX0_permits_55 ?_
        refine lv_iload_n hx hb dX0_permits_56 rfl (lv_at hl 1 rfl) ?_
        refine lv_icmp_eq (tgt := 62) hx hb dX0_permits_57 (by decide) (fun c30 => ?_) (fun c30 => ?_)
        · refine lv_iload_n hx hb dX0_permits_62 rfl (lv_at hl 3 rfl) ?_
          refine lv_bipush (v := 16) hx hb dX0_permits_63 (by decide) ?_
          refine lv_iand hx hb dX0_permits_65 ?_
          refine lv_if_eq (tgt := 73) hx hb dX0_permits_66 (by decide) (fun c31 => ?_) (fun c31 => ?_)
          · refine lv_iconst (v := 0) hx hb dX0_permits_73 (by decide) ?_
            refine lv_istore (lv' := [(5, .int 0), (4, .int 0), (3, .int x27), (0, .ref h0), (1, .int p1), (2, .int p2)]) hx hb dX0_permits_74 hl (by decide) rfl (fun ls hl => ?_)
            refine lv_aload_n hx hb dX0_permits_76 rfl (lv_at hl 3 rfl) ?_
            refine va_get (D := (dC, dI)) (ci := 0) (v := .int st.2.2.2.2.1) (C := "PagedHart") (T := TX0) (N := 6) hx hb hts mU0 hown hK hP 0 rfl rfl 4 (by decide) (hts _ mF_0_24) (fun _ h9 => h9) rfl dX0_permits_77 ?_
            refine lv_if_ne (tgt := 86) hx hb dX0_permits_80 (by decide) (fun c32 => ?_) (fun c32 => ?_)
            · refine lv_iload hx hb dX0_permits_86 (lv_at hl 0 rfl) ?_
              refine lv_if_eq (tgt := 107) hx hb dX0_permits_88 (by decide) (fun c33 => ?_) (fun c33 => ?_)
              · refine lv_iconst (v := 1) hx hb dX0_permits_107 (by decide) ?_
                refine lv_goto (tgt := 112) hx hb dX0_permits_108 (by decide) ?_
                exact W.zret (v := 1) hx hb hr rfl (fun t ht hW => ⟨jq (by subst ex27; exact (((if_pos c1).trans ((if_neg c28).trans ((if_pos c30).trans ((if_pos c31).trans ((if_neg c32).trans rfl)))))).symm), ht.trans hHe⟩) (fun q h => (hN q h).elim) dX0_permits_112
              · exact (c33 (by decide)).elim
            · refine lv_iload hx hb dX0_permits_83 (lv_at hl 0 rfl) ?_
              exact W.zret (v := 0) hx hb hr rfl (fun t ht hW => ⟨jq (by subst ex27; exact (((if_pos c1).trans ((if_neg c28).trans ((if_pos c30).trans ((if_pos c31).trans ((if_pos c32).trans rfl)))))).symm), ht.trans hHe⟩) (fun q h => (hN q h).elim) dX0_permits_85
          · refine lv_iconst (v := 1) hx hb dX0_permits_69 (by decide) ?_
            refine lv_goto (tgt := 74) hx hb dX0_permits_70 (by decide) ?_
            refine lv_istore (lv' := [(5, .int 1), (4, .int 0), (3, .int x27), (0, .ref h0), (1, .int p1), (2, .int p2)]) hx hb dX0_permits_74 hl (by decide) rfl (fun ls hl => ?_)
            refine lv_aload_n hx hb dX0_permits_76 rfl (lv_at hl 3 rfl) ?_
            refine va_get (D := (dC, dI)) (ci := 0) (v := .int st.2.2.2.2.1) (C := "PagedHart") (T := TX0) (N := 6) hx hb hts mU0 hown hK hP 0 rfl rfl 4 (by decide) (hts _ mF_0_24) (fun _ h9 => h9) rfl dX0_permits_77 ?_
            refine lv_if_ne (tgt := 86) hx hb dX0_permits_80 (by decide) (fun c34 => ?_) (fun c34 => ?_)
            · refine lv_iload hx hb dX0_permits_86 (lv_at hl 0 rfl) ?_
              refine lv_if_eq (tgt := 107) hx hb dX0_permits_88 (by decide) (fun c35 => ?_) (fun c35 => ?_)
              · exact absurd c35 (by decide)
              · refine lv_iload_n hx hb dX0_permits_91 rfl (lv_at hl 5 rfl) ?_
                refine lv_if_eq (tgt := 111) hx hb dX0_permits_92 (by decide) (fun c36 => ?_) (fun c36 => ?_)
                · refine lv_iconst (v := 0) hx hb dX0_permits_111 (by decide) ?_
                  exact W.zret (v := 0) hx hb hr rfl (fun t ht hW => ⟨jq (by subst ex27; exact (((if_pos c1).trans ((if_neg c28).trans ((if_pos c30).trans ((if_neg c31).trans ((if_neg c34).trans ((if_pos c36).trans rfl))))))).symm), ht.trans hHe⟩) (fun q h => (hN q h).elim) dX0_permits_112
                · refine lv_aload_n hx hb dX0_permits_95 rfl (lv_at hl 3 rfl) ?_
                  refine va_get (D := (dC, dI)) (ci := 0) (v := .ref qco2) (C := "PagedHart") (T := TX0) (N := 6) hx hb hts mU0 hown hK hP 0 rfl rfl 2 (by decide) (hts _ mF_0_17) (fun _ h9 => h9) rfl dX0_permits_96 ?_
                  refine lv_iconst (v := 0) hx hb dX0_permits_99 (by decide) ?_
                  refine va_iald (D := (dC, dI)) hx hb hK hP 3 0 rfl rfl (jin (by decide)) dX0_permits_100 ?_
                  refine lv_ldc (v := 262144) hx hb hown (hts _ mC_0_72) dX0_permits_101 ?_
                  refine lv_iand hx hb dX0_permits_103 ?_
                  refine lv_if_eq (tgt := 111) hx hb dX0_permits_104 (by decide) (fun c37 => ?_) (fun c37 => ?_)
                  · refine lv_iconst (v := 0) hx hb dX0_permits_111 (by decide) ?_
                    exact W.zret (v := 0) hx hb hr rfl (fun t ht hW => ⟨jq (by subst ex27; exact (((if_pos c1).trans ((if_neg c28).trans ((if_pos c30).trans ((if_neg c31).trans ((if_neg c34).trans ((if_neg c36).trans ((if_pos c37).trans rfl)))))))).symm), ht.trans hHe⟩) (fun q h => (hN q h).elim) dX0_permits_112
                  · refine lv_iconst (v := 1) hx hb dX0_permits_107 (by decide) ?_
                    refine lv_goto (tgt := 112) hx hb dX0_permits_108 (by decide) ?_
                    exact W.zret (v := 1) hx hb hr rfl (fun t ht hW => ⟨jq (by subst ex27; exact (((if_pos c1).trans ((if_neg c28).trans ((if_pos c30).trans ((if_neg c31).trans ((if_neg c34).trans ((if_neg c36).trans ((if_neg c37).trans rfl)))))))).symm), ht.trans hHe⟩) (fun q h => (hN q h).elim) dX0_permits_112
            · refine lv_iload hx hb dX0_permits_83 (lv_at hl 0 rfl) ?_
              exact W.zret (v := 1) hx hb hr rfl (fun t ht hW => ⟨jq (by subst ex27; exact (((if_pos c1).trans ((if_neg c28).trans ((if_pos c30).trans ((if_neg c31).trans ((if_pos c34).trans rfl)))))).symm), ht.trans hHe⟩) (fun q h => (hN q h).elim) dX0_permits_85
        · refine lv_iconst (v := 0) hx hb dX0_permits_60 (by decide) ?_
          exact W.zret (v := 0) hx hb hr rfl (fun t ht hW => ⟨jq (by subst ex27; exact (((if_pos c1).trans ((if_neg c28).trans ((if_neg c30).trans rfl)))).symm), ht.trans hHe⟩) (fun q h => (hN q h).elim) dX0_permits_61
    · refine lv_iconst (v := 1) hx hb dX0_permits_41 (by decide) ?_
      refine lv_goto (tgt := 46) hx hb dX0_permits_42 (by decide) ?_
      refine lv_istore (lv' := [(4, .int 1), (3, .int x27), (0, .ref h0), (1, .int p1), (2, .int p2)]) hx hb dX0_permits_46 hl (by decide) rfl (fun ls hl => ?_)
      refine lv_iload hx hb dX0_permits_48 (lv_at hl 0 rfl) ?_
      refine lv_if_ne (tgt := 60) hx hb dX0_permits_50 (by decide) (fun c38 => ?_) (fun c38 => ?_)
      · refine lv_iconst (v := 0) hx hb dX0_permits_60 (by decide) ?_
        exact W.zret (v := 0) hx hb hr rfl (fun t ht hW => ⟨jq (by subst ex27; exact (((if_pos c1).trans ((if_pos c28).trans rfl))).symm), ht.trans hHe⟩) (fun q h => (hN q h).elim) dX0_permits_61
      · exact absurd c38 (by decide)

def h_locate (st : HS) (p1 : Int32) (p2 : Int32) : Int32 :=
  let x1 : Int32 := st.2.2.1 (6 : Int32).toNatClampNeg
  if 0 ≤ x1 then
    let x3 : Int32 := h_isInMemory p1
    if x3 = 0 then
      let x5 : Int32 := h_accessCause p2
      (((-1) : Int32) - x5)
    else
      p1
  else
    let x6 : Int32 := (x1 <<< ((12 : Int32) &&& 31)) + ((jush p1 (22 : Int32)) <<< ((2 : Int32) &&& 31))
    let x7 : Int32 := h_isInMemory x6
    if x7 = 0 then
      let x39 : Int32 := h_accessCause p2
      (((-1) : Int32) - x39)
    else
      let x9 : Int32 := st.1 (jush x6 (2 : Int32)).toNatClampNeg
      if (x9 &&& (15 : Int32)) = (1 : Int32) then
        let x22 : Int32 := h_frameOf x9
        let x23 : Int32 := x22 + (((jush p1 (12 : Int32)) &&& (1023 : Int32)) <<< ((2 : Int32) &&& 31))
        let x24 : Int32 := h_isInMemory x23
        if x24 = 0 then
          let x38 : Int32 := h_accessCause p2
          (((-1) : Int32) - x38)
        else
          let x26 : Int32 := st.1 (jush x23 (2 : Int32)).toNatClampNeg
          let x27 : Int32 := h_frameOf x26
          if (x27 &&& (4095 : Int32)) = 0 then
            let x30 : Int32 := h_permits st x26 p2
            if x30 = 0 then
              let x37 : Int32 := h_pageCause p2
              (((-1) : Int32) - x37)
            else
              let x32 : Int32 := h_frameOf x26
              let x33 : Int32 := x32 + (p1 &&& (4095 : Int32))
              let x34 : Int32 := h_isInMemory x33
              if x34 = 0 then
                let x36 : Int32 := h_accessCause p2
                (((-1) : Int32) - x36)
              else
                x33
          else
            let x29 : Int32 := h_pageCause p2
            (((-1) : Int32) - x29)
      else
        let x11 : Int32 := h_frameOf x9
        if (x11 &&& (4194303 : Int32)) = 0 then
          let x14 : Int32 := h_permits st x9 p2
          if x14 = 0 then
            let x21 : Int32 := h_pageCause p2
            (((-1) : Int32) - x21)
          else
            let x16 : Int32 := h_frameOf x9
            let x17 : Int32 := x16 + (p1 &&& (4194303 : Int32))
            let x18 : Int32 := h_isInMemory x17
            if x18 = 0 then
              let x20 : Int32 := h_accessCause p2
              (((-1) : Int32) - x20)
            else
              x17
        else
          let x13 : Int32 := h_pageCause p2
          (((-1) : Int32) - x13)
set_option maxHeartbeats 4000000 in
set_option maxRecDepth 100000 in
theorem ch_locate (l : Launch) (dC : Nat → ClassId) (dI : Nat → Nat → Nat) (cI h0 qme0 qre1 qco2 tN tB : Nat) (sz : Nat) (st : HS) (p1 : Int32) (p2 : Int32)  : Met l yX0_locate (.code yX0_locate cX0_locate 8 (some .int) :: gBIG) ({ frames := 1, cells := 0, slots := 0, locals := 25 }) (va_Pc [.ref h0, .int p1, .int p2] (gPre dC dI cI h0 qme0 qre1 qco2 tN tB sz st)) (QcRead (h_locate st p1 p2)) 0 0 (fun _ => False) := by
  refine Met.ofW (cc := cX0_locate) (maxL := 8) (ret := (some .int)) (by decide) rfl ?_
  intro p e s m args below meth c s₁ B hml hv
  obtain ⟨rfl, hsz, hP, hK, hD0, hZ⟩ := hv
  have hx := B.exec
  have hb := B.bytes
  have hr := B.returns
  have hts : ∀ w ∈ gBIG, w.before _ s = true := fun w h => atoms_spec (ws := (.code yX0_locate cX0_locate 8 (some .int) :: gBIG)) B.pre w (List.mem_cons_of_mem _ h)
  have hown : s.vm.findClass "PagedHart" = some m.cls := findClass_of_methodNamed B.named
  have hlocks := B.notSynchronized
  subst hsz
  have hD : va_D (gA h0 qme0 qre1 qco2 s.heap.size) (gW cI h0 qme0 qre1 qco2 st) := gD hD0
  have hS : va_S (gA h0 qme0 qre1 qco2 s.heap.size) s.heap s.heap [] := va_S.rf
  have hP : va_P (dC, dI) vwCl (gW cI h0 qme0 qre1 qco2 st) s.heap := hP
  have hl := lv_entry ([.ref h0, .int p1, .int p2]) (n := 8) (Nat.le_of_ble_eq_true rfl)
  rw [lg_entry_eq]
  generalize (lg_sl ([.ref h0, .int p1, .int p2]) ++ List.replicate (8 - (lg_sl ([.ref h0, .int p1, .int p2])).length) Slot.unset).toArray = ls at hl ⊢
  refine jgo (P := fun H locs => va_P (dC, dI) vwCl (gW cI h0 qme0 qre1 qco2 st) H ∧ va_S (gA h0 qme0 qre1 qco2 s.heap.size) s.heap H locs ∧ H = s.heap ∧ ∀ q ∈ locs, False) ⟨hP, hS, rfl, fun q h => by cases h⟩ (fun H locs hPS => ?_)
  obtain ⟨hP, hS, hHe, hN⟩ := hPS
  have hl : lv_has ls 8 [(0, .ref h0), (1, .int p1), (2, .int p2)] := hl
  refine lv_iload_n hx hb dX0_locate_0 rfl (lv_at hl 1 rfl) ?_
  refine lv_istore_n (lv' := [(3, .int p1), (0, .ref h0), (1, .int p1), (2, .int p2)]) hx hb dX0_locate_1 rfl hl (by decide) rfl (fun ls hl => ?_)
  refine lv_aload_n hx hb dX0_locate_2 rfl (lv_at hl 1 rfl) ?_
  refine va_get (D := (dC, dI)) (ci := 0) (v := .ref qco2) (C := "PagedHart") (T := TX0) (N := 6) hx hb hts mU0 hown hK hP 0 rfl rfl 2 (by decide) (hts _ mF_0_17) (fun _ h9 => h9) rfl dX0_locate_3 ?_
  refine lv_bipush (v := 6) hx hb dX0_locate_6 (by decide) ?_
  refine va_iald (D := (dC, dI)) hx hb hK hP 3 0 rfl rfl (jin (by decide)) dX0_locate_8 ?_
  refine lv_topi (fun x1 ex1 => ?_)
  refine lv_istore (lv' := [(4, .int x1), (3, .int p1), (0, .ref h0), (1, .int p1), (2, .int p2)]) hx hb dX0_locate_9 hl (by decide) rfl (fun ls hl => ?_)
  refine lv_iload hx hb dX0_locate_11 (lv_at hl 0 rfl) ?_
  refine lv_if_ge (tgt := 157) hx hb dX0_locate_13 (by decide) (fun c2 => ?_) (fun c2 => ?_)
  · refine lv_iload_n hx hb dX0_locate_157 rfl (lv_at hl 1 rfl) ?_
    refine W.callR (W.runS (As := [.int p1]) (rest := []) ⟨hx, hb, hml, hown, hts⟩ (ch_isInMemory l p1) (cwS 1 hts (gS mL_0_73 mS_0_isInMemory mN_0 mB_0_isInMemory) rfl rfl rfl (by decide +kernel) ⟨Nat.le_of_ble_eq_true rfl, Nat.le_of_ble_eq_true rfl⟩) ⟨jblind, fun _ _ _ => ⟨rfl, trivial⟩⟩ rfl rfl hl.1 rfl (lv_room (Nat.le_of_ble_eq_true rfl)) dX0_locate_158 ⟨Nat.zero_le _, Nat.zero_le _⟩) ?_
    refine W.eq (g2 := F0 m 161 ls (.int (h_isInMemory p1) :: [])) rfl ?_
    refine lv_topi (fun x3 ex3 => ?_)
    refine lv_if_eq (tgt := 168) hx hb dX0_locate_161 (by decide) (fun c4 => ?_) (fun c4 => ?_)
    · refine lv_iconst (v := (-1)) hx hb dX0_locate_168 (by decide) ?_
      refine lv_iload_n hx hb dX0_locate_169 rfl (lv_at hl 4 rfl) ?_
      refine W.callR (W.runS (As := [.int p2]) (rest := [.int (-1)]) ⟨hx, hb, hml, hown, hts⟩ (ch_accessCause l p2) (cwS 1 hts (gS mL_0_79 mS_0_accessCause mN_0 mB_0_accessCause) rfl rfl rfl (by decide +kernel) ⟨Nat.le_of_ble_eq_true rfl, Nat.le_of_ble_eq_true rfl⟩) ⟨jblind, fun _ _ _ => ⟨rfl, trivial⟩⟩ rfl rfl hl.1 rfl (lv_room (Nat.le_of_ble_eq_true rfl)) dX0_locate_170 ⟨Nat.zero_le _, Nat.zero_le _⟩) ?_
      refine W.eq (g2 := F0 m 173 ls (.int (h_accessCause p2) :: [.int (-1)])) rfl ?_
      refine lv_topi (fun x5 ex5 => ?_)
      refine lv_isub hx hb dX0_locate_173 ?_
      exact W.iret (v := ((-1) : Int32) - x5) hx hb hr (fun t ht hW => ⟨jq (by subst ex5 ex3 ex1; exact (((if_pos c2).trans ((if_pos c4).trans rfl))).symm), ht.trans hHe⟩) (fun q h => (hN q h).elim) dX0_locate_174
    · refine lv_iload_n hx hb dX0_locate_164 rfl (lv_at hl 1 rfl) ?_
      refine lv_goto (tgt := 174) hx hb dX0_locate_165 (by decide) ?_
      exact W.iret (v := p1) hx hb hr (fun t ht hW => ⟨jq (by subst ex3 ex1; exact (((if_pos c2).trans ((if_neg c4).trans rfl))).symm), ht.trans hHe⟩) (fun q h => (hN q h).elim) dX0_locate_174
  · refine lv_iload hx hb dX0_locate_16 (lv_at hl 0 rfl) ?_
    refine lv_bipush (v := 12) hx hb dX0_locate_18 (by decide) ?_
    refine lv_ishl hx hb dX0_locate_20 ?_
    refine lv_iload_n hx hb dX0_locate_21 rfl (lv_at hl 3 rfl) ?_
    refine lv_bipush (v := 22) hx hb dX0_locate_22 (by decide) ?_
    refine lv_iushr (v := jush p1 (22 : Int32)) hx hb dX0_locate_24 rfl ?_
    refine lv_iconst (v := 2) hx hb dX0_locate_25 (by decide) ?_
    refine lv_ishl hx hb dX0_locate_26 ?_
    refine lv_iadd hx hb dX0_locate_27 ?_
    refine lv_topi (fun x6 ex6 => ?_)
    refine lv_istore (lv' := [(5, .int x6), (4, .int x1), (3, .int p1), (0, .ref h0), (1, .int p1), (2, .int p2)]) hx hb dX0_locate_28 hl (by decide) rfl (fun ls hl => ?_)
    refine lv_iload hx hb dX0_locate_30 (lv_at hl 0 rfl) ?_
    refine W.callR (W.runS (As := [.int x6]) (rest := []) ⟨hx, hb, hml, hown, hts⟩ (ch_isInMemory l x6) (cwS 1 hts (gS mL_0_73 mS_0_isInMemory mN_0 mB_0_isInMemory) rfl rfl rfl (by decide +kernel) ⟨Nat.le_of_ble_eq_true rfl, Nat.le_of_ble_eq_true rfl⟩) ⟨jblind, fun _ _ _ => ⟨rfl, trivial⟩⟩ rfl rfl hl.1 rfl (lv_room (Nat.le_of_ble_eq_true rfl)) dX0_locate_32 ⟨Nat.zero_le _, Nat.zero_le _⟩) ?_
    refine W.eq (g2 := F0 m 35 ls (.int (h_isInMemory x6) :: [])) rfl ?_
    refine lv_topi (fun x7 ex7 => ?_)
    refine lv_if_ne (tgt := 45) hx hb dX0_locate_35 (by decide) (fun c8 => ?_) (fun c8 => ?_)
    · refine lv_aload_n hx hb dX0_locate_45 rfl (lv_at hl 3 rfl) ?_
      refine va_get (D := (dC, dI)) (ci := 0) (v := .ref qme0) (C := "PagedHart") (T := TX0) (N := 6) hx hb hts mU0 hown hK hP 0 rfl rfl 0 (by decide) (hts _ mF_0_10) (fun _ h9 => h9) rfl dX0_locate_46 ?_
      refine lv_iload hx hb dX0_locate_49 (lv_at hl 0 rfl) ?_
      refine lv_iconst (v := 2) hx hb dX0_locate_51 (by decide) ?_
      refine lv_iushr (v := jush x6 (2 : Int32)) hx hb dX0_locate_52 rfl ?_
      refine va_iald (D := (dC, dI)) hx hb hK hP 1 0 rfl rfl (h_in1 (by rw [← ex7]; exact c8)) dX0_locate_53 ?_
      refine lv_topi (fun x9 ex9 => ?_)
      refine lv_istore (lv' := [(6, .int x9), (5, .int x6), (4, .int x1), (3, .int p1), (0, .ref h0), (1, .int p1), (2, .int p2)]) hx hb dX0_locate_54 hl (by decide) rfl (fun ls hl => ?_)
      refine lv_ldc (v := 4194303) hx hb hown (hts _ mC_0_82) dX0_locate_56 ?_
      refine lv_istore (lv' := [(7, .int 4194303), (6, .int x9), (5, .int x6), (4, .int x1), (3, .int p1), (0, .ref h0), (1, .int p1), (2, .int p2)]) hx hb dX0_locate_58 hl (by decide) rfl (fun ls hl => ?_)
      refine lv_iload hx hb dX0_locate_60 (lv_at hl 1 rfl) ?_
      refine lv_bipush (v := 15) hx hb dX0_locate_62 (by decide) ?_
      refine lv_iand hx hb dX0_locate_64 ?_
      refine lv_iconst (v := 1) hx hb dX0_locate_65 (by decide) ?_
      refine lv_icmp_ne (tgt := 118) hx hb dX0_locate_66 (by decide) (fun c10 => ?_) (fun c10 => ?_)
      · refine lv_iload hx hb dX0_locate_118 (lv_at hl 1 rfl) ?_
        refine W.callR (W.runS (As := [.int x9]) (rest := []) ⟨hx, hb, hml, hown, hts⟩ (ch_frameOf l x9) (cwS 1 hts (gS mL_0_83 mS_0_frameOf mN_0 mB_0_frameOf) rfl rfl rfl (by decide +kernel) ⟨Nat.le_of_ble_eq_true rfl, Nat.le_of_ble_eq_true rfl⟩) ⟨jblind, fun _ _ _ => ⟨rfl, trivial⟩⟩ rfl rfl hl.1 rfl (lv_room (Nat.le_of_ble_eq_true rfl)) dX0_locate_120 ⟨Nat.zero_le _, Nat.zero_le _⟩) ?_
        refine W.eq (g2 := F0 m 123 ls (.int (h_frameOf x9) :: [])) rfl ?_
        refine lv_topi (fun x11 ex11 => ?_)
        refine lv_iload hx hb dX0_locate_123 (lv_at hl 0 rfl) ?_
        refine lv_iand hx hb dX0_locate_125 ?_
        refine lv_if_ne (tgt := 139) hx hb dX0_locate_126 (by decide) (fun c12 => ?_) (fun c12 => ?_)
        · refine lv_iconst (v := (-1)) hx hb dX0_locate_139 (by decide) ?_
          refine lv_iload_n hx hb dX0_locate_140 rfl (lv_at hl 7 rfl) ?_
          refine W.callR (W.runS (As := [.int p2]) (rest := [.int (-1)]) ⟨hx, hb, hml, hown, hts⟩ (ch_pageCause l p2) (cwS 1 hts (gS mL_0_90 mS_0_pageCause mN_0 mB_0_pageCause) rfl rfl rfl (by decide +kernel) ⟨Nat.le_of_ble_eq_true rfl, Nat.le_of_ble_eq_true rfl⟩) ⟨jblind, fun _ _ _ => ⟨rfl, trivial⟩⟩ rfl rfl hl.1 rfl (lv_room (Nat.le_of_ble_eq_true rfl)) dX0_locate_141 ⟨Nat.zero_le _, Nat.zero_le _⟩) ?_
          refine W.eq (g2 := F0 m 144 ls (.int (h_pageCause p2) :: [.int (-1)])) rfl ?_
          refine lv_topi (fun x13 ex13 => ?_)
          refine lv_isub hx hb dX0_locate_144 ?_
          exact W.iret (v := ((-1) : Int32) - x13) hx hb hr (fun t ht hW => ⟨jq (by subst ex13 ex11 ex9 ex7 ex6 ex1; exact (((if_neg c2).trans ((if_neg c8).trans ((if_neg c10).trans ((if_neg c12).trans rfl))))).symm), ht.trans hHe⟩) (fun q h => (hN q h).elim) dX0_locate_145
        · refine lv_aload_n hx hb dX0_locate_129 rfl (lv_at hl 5 rfl) ?_
          refine lv_iload hx hb dX0_locate_130 (lv_at hl 1 rfl) ?_
          refine lv_iload_n hx hb dX0_locate_132 rfl (lv_at hl 7 rfl) ?_
          refine gR (As := [.int x9, .int p2]) (rest := []) (f := h_permits st x9 p2) ⟨hx, hb, hml, hown, hts⟩ (ch_permits l dC dI cI h0 qme0 qre1 qco2 tN tB H.size st x9 p2) (cwV 2 hts (gV mL_0_86 mI_0_permits mX_0_permits mN_0 mB_0_permits) rfl rfl rfl (by decide +kernel) ⟨Nat.le_of_ble_eq_true rfl, Nat.le_of_ble_eq_true rfl⟩) hK hP hD hS hZ rfl hl.1 rfl (Nat.le_of_ble_eq_true rfl) dX0_locate_133 ⟨Nat.zero_le _, Nat.zero_le _⟩ ?_
          refine lv_topi (fun x14 ex14 => ?_)
          refine lv_if_ne (tgt := 146) hx hb dX0_locate_136 (by decide) (fun c15 => ?_) (fun c15 => ?_)
          · refine lv_iload hx hb dX0_locate_146 (lv_at hl 1 rfl) ?_
            refine W.callR (W.runS (As := [.int x9]) (rest := []) ⟨hx, hb, hml, hown, hts⟩ (ch_frameOf l x9) (cwS 1 hts (gS mL_0_83 mS_0_frameOf mN_0 mB_0_frameOf) rfl rfl rfl (by decide +kernel) ⟨Nat.le_of_ble_eq_true rfl, Nat.le_of_ble_eq_true rfl⟩) ⟨jblind, fun _ _ _ => ⟨rfl, trivial⟩⟩ rfl rfl hl.1 rfl (lv_room (Nat.le_of_ble_eq_true rfl)) dX0_locate_148 ⟨Nat.zero_le _, Nat.zero_le _⟩) ?_
            refine W.eq (g2 := F0 m 151 ls (.int (h_frameOf x9) :: [])) rfl ?_
            refine lv_topi (fun x16 ex16 => ?_)
            refine lv_iload_n hx hb dX0_locate_151 rfl (lv_at hl 6 rfl) ?_
            refine lv_iload hx hb dX0_locate_152 (lv_at hl 0 rfl) ?_
            refine lv_iand hx hb dX0_locate_154 ?_
            refine lv_iadd hx hb dX0_locate_155 ?_
            refine lv_topi (fun x17 ex17 => ?_)
            refine lv_istore_n (lv' := [(3, .int x17), (7, .int 4194303), (6, .int x9), (5, .int x6), (4, .int x1), (0, .ref h0), (1, .int p1), (2, .int p2)]) hx hb dX0_locate_156 rfl hl (by decide) rfl (fun ls hl => ?_)
            refine lv_iload_n hx hb dX0_locate_157 rfl (lv_at hl 0 rfl) ?_
            refine W.callR (W.runS (As := [.int x17]) (rest := []) ⟨hx, hb, hml, hown, hts⟩ (ch_isInMemory l x17) (cwS 1 hts (gS mL_0_73 mS_0_isInMemory mN_0 mB_0_isInMemory) rfl rfl rfl (by decide +kernel) ⟨Nat.le_of_ble_eq_true rfl, Nat.le_of_ble_eq_true rfl⟩) ⟨jblind, fun _ _ _ => ⟨rfl, trivial⟩⟩ rfl rfl hl.1 rfl (lv_room (Nat.le_of_ble_eq_true rfl)) dX0_locate_158 ⟨Nat.zero_le _, Nat.zero_le _⟩) ?_
            refine W.eq (g2 := F0 m 161 ls (.int (h_isInMemory x17) :: [])) rfl ?_
            refine lv_topi (fun x18 ex18 => ?_)
            refine lv_if_eq (tgt := 168) hx hb dX0_locate_161 (by decide) (fun c19 => ?_) (fun c19 => ?_)
            · refine lv_iconst (v := (-1)) hx hb dX0_locate_168 (by decide) ?_
              refine lv_iload_n hx hb dX0_locate_169 rfl (lv_at hl 7 rfl) ?_
              refine W.callR (W.runS (As := [.int p2]) (rest := [.int (-1)]) ⟨hx, hb, hml, hown, hts⟩ (ch_accessCause l p2) (cwS 1 hts (gS mL_0_79 mS_0_accessCause mN_0 mB_0_accessCause) rfl rfl rfl (by decide +kernel) ⟨Nat.le_of_ble_eq_true rfl, Nat.le_of_ble_eq_true rfl⟩) ⟨jblind, fun _ _ _ => ⟨rfl, trivial⟩⟩ rfl rfl hl.1 rfl (lv_room (Nat.le_of_ble_eq_true rfl)) dX0_locate_170 ⟨Nat.zero_le _, Nat.zero_le _⟩) ?_
              refine W.eq (g2 := F0 m 173 ls (.int (h_accessCause p2) :: [.int (-1)])) rfl ?_
              refine lv_topi (fun x20 ex20 => ?_)
              refine lv_isub hx hb dX0_locate_173 ?_
              exact W.iret (v := ((-1) : Int32) - x20) hx hb hr (fun t ht hW => ⟨jq (by subst ex20 ex18 ex17 ex16 ex14 ex11 ex9 ex7 ex6 ex1; exact (((if_neg c2).trans ((if_neg c8).trans ((if_neg c10).trans ((if_pos c12).trans ((if_neg c15).trans ((if_pos c19).trans rfl))))))).symm), ht.trans hHe⟩) (fun q h => (hN q h).elim) dX0_locate_174
            · refine lv_iload_n hx hb dX0_locate_164 rfl (lv_at hl 0 rfl) ?_
              refine lv_goto (tgt := 174) hx hb dX0_locate_165 (by decide) ?_
              exact W.iret (v := x17) hx hb hr (fun t ht hW => ⟨jq (by subst ex18 ex17 ex16 ex14 ex11 ex9 ex7 ex6 ex1; exact (((if_neg c2).trans ((if_neg c8).trans ((if_neg c10).trans ((if_pos c12).trans ((if_neg c15).trans ((if_neg c19).trans rfl))))))).symm), ht.trans hHe⟩) (fun q h => (hN q h).elim) dX0_locate_174
          · refine lv_iconst (v := (-1)) hx hb dX0_locate_139 (by decide) ?_
            refine lv_iload_n hx hb dX0_locate_140 rfl (lv_at hl 7 rfl) ?_
            refine W.callR (W.runS (As := [.int p2]) (rest := [.int (-1)]) ⟨hx, hb, hml, hown, hts⟩ (ch_pageCause l p2) (cwS 1 hts (gS mL_0_90 mS_0_pageCause mN_0 mB_0_pageCause) rfl rfl rfl (by decide +kernel) ⟨Nat.le_of_ble_eq_true rfl, Nat.le_of_ble_eq_true rfl⟩) ⟨jblind, fun _ _ _ => ⟨rfl, trivial⟩⟩ rfl rfl hl.1 rfl (lv_room (Nat.le_of_ble_eq_true rfl)) dX0_locate_141 ⟨Nat.zero_le _, Nat.zero_le _⟩) ?_
            refine W.eq (g2 := F0 m 144 ls (.int (h_pageCause p2) :: [.int (-1)])) rfl ?_
            refine lv_topi (fun x21 ex21 => ?_)
            refine lv_isub hx hb dX0_locate_144 ?_
            exact W.iret (v := ((-1) : Int32) - x21) hx hb hr (fun t ht hW => ⟨jq (by subst ex21 ex14 ex11 ex9 ex7 ex6 ex1; exact (((if_neg c2).trans ((if_neg c8).trans ((if_neg c10).trans ((if_pos c12).trans ((if_pos c15).trans rfl)))))).symm), ht.trans hHe⟩) (fun q h => (hN q h).elim) dX0_locate_145
      · refine lv_iload hx hb dX0_locate_69 (lv_at hl 1 rfl) ?_
        refine W.callR (W.runS (As := [.int x9]) (rest := []) ⟨hx, hb, hml, hown, hts⟩ (ch_frameOf l x9) (cwS 1 hts (gS mL_0_83 mS_0_frameOf mN_0 mB_0_frameOf) rfl rfl rfl (by decide +kernel) ⟨Nat.le_of_ble_eq_true rfl, Nat.le_of_ble_eq_true rfl⟩) ⟨jblind, fun _ _ _ => ⟨rfl, trivial⟩⟩ rfl rfl hl.1 rfl (lv_room (Nat.le_of_ble_eq_true rfl)) dX0_locate_71 ⟨Nat.zero_le _, Nat.zero_le _⟩) ?_
        refine W.eq (g2 := F0 m 74 ls (.int (h_frameOf x9) :: [])) rfl ?_
        refine lv_topi (fun x22 ex22 => ?_)
        refine lv_iload_n hx hb dX0_locate_74 rfl (lv_at hl 6 rfl) ?_
        refine lv_bipush (v := 12) hx hb dX0_locate_75 (by decide) ?_
        refine lv_iushr (v := jush p1 (12 : Int32)) hx hb dX0_locate_77 rfl ?_
        refine lv_sipush (v := 1023) hx hb dX0_locate_78 (by decide) ?_
        refine lv_iand hx hb dX0_locate_81 ?_
        refine lv_iconst (v := 2) hx hb dX0_locate_82 (by decide) ?_
        refine lv_ishl hx hb dX0_locate_83 ?_
        refine lv_iadd hx hb dX0_locate_84 ?_
        refine lv_topi (fun x23 ex23 => ?_)
        refine lv_istore (lv' := [(5, .int x23), (7, .int 4194303), (6, .int x9), (4, .int x1), (3, .int p1), (0, .ref h0), (1, .int p1), (2, .int p2)]) hx hb dX0_locate_85 hl (by decide) rfl (fun ls hl => ?_)
        refine lv_iload hx hb dX0_locate_87 (lv_at hl 0 rfl) ?_
        refine W.callR (W.runS (As := [.int x23]) (rest := []) ⟨hx, hb, hml, hown, hts⟩ (ch_isInMemory l x23) (cwS 1 hts (gS mL_0_73 mS_0_isInMemory mN_0 mB_0_isInMemory) rfl rfl rfl (by decide +kernel) ⟨Nat.le_of_ble_eq_true rfl, Nat.le_of_ble_eq_true rfl⟩) ⟨jblind, fun _ _ _ => ⟨rfl, trivial⟩⟩ rfl rfl hl.1 rfl (lv_room (Nat.le_of_ble_eq_true rfl)) dX0_locate_89 ⟨Nat.zero_le _, Nat.zero_le _⟩) ?_
        refine W.eq (g2 := F0 m 92 ls (.int (h_isInMemory x23) :: [])) rfl ?_
        refine lv_topi (fun x24 ex24 => ?_)
        refine lv_if_ne (tgt := 102) hx hb dX0_locate_92 (by decide) (fun c25 => ?_) (fun c25 => ?_)
        · refine lv_aload_n hx hb dX0_locate_102 rfl (lv_at hl 5 rfl) ?_
          refine va_get (D := (dC, dI)) (ci := 0) (v := .ref qme0) (C := "PagedHart") (T := TX0) (N := 6) hx hb hts mU0 hown hK hP 0 rfl rfl 0 (by decide) (hts _ mF_0_10) (fun _ h9 => h9) rfl dX0_locate_103 ?_
          refine lv_iload hx hb dX0_locate_106 (lv_at hl 0 rfl) ?_
          refine lv_iconst (v := 2) hx hb dX0_locate_108 (by decide) ?_
          refine lv_iushr (v := jush x23 (2 : Int32)) hx hb dX0_locate_109 rfl ?_
          refine va_iald (D := (dC, dI)) hx hb hK hP 1 0 rfl rfl (h_in1 (by rw [← ex24]; exact c25)) dX0_locate_110 ?_
          refine lv_topi (fun x26 ex26 => ?_)
          refine lv_istore (lv' := [(6, .int x26), (5, .int x23), (7, .int 4194303), (4, .int x1), (3, .int p1), (0, .ref h0), (1, .int p1), (2, .int p2)]) hx hb dX0_locate_111 hl (by decide) rfl (fun ls hl => ?_)
          refine lv_sipush (v := 4095) hx hb dX0_locate_113 (by decide) ?_
          refine lv_istore (lv' := [(7, .int 4095), (6, .int x26), (5, .int x23), (4, .int x1), (3, .int p1), (0, .ref h0), (1, .int p1), (2, .int p2)]) hx hb dX0_locate_116 hl (by decide) rfl (fun ls hl => ?_)
          refine lv_iload hx hb dX0_locate_118 (lv_at hl 1 rfl) ?_
          refine W.callR (W.runS (As := [.int x26]) (rest := []) ⟨hx, hb, hml, hown, hts⟩ (ch_frameOf l x26) (cwS 1 hts (gS mL_0_83 mS_0_frameOf mN_0 mB_0_frameOf) rfl rfl rfl (by decide +kernel) ⟨Nat.le_of_ble_eq_true rfl, Nat.le_of_ble_eq_true rfl⟩) ⟨jblind, fun _ _ _ => ⟨rfl, trivial⟩⟩ rfl rfl hl.1 rfl (lv_room (Nat.le_of_ble_eq_true rfl)) dX0_locate_120 ⟨Nat.zero_le _, Nat.zero_le _⟩) ?_
          refine W.eq (g2 := F0 m 123 ls (.int (h_frameOf x26) :: [])) rfl ?_
          refine lv_topi (fun x27 ex27 => ?_)
          refine lv_iload hx hb dX0_locate_123 (lv_at hl 0 rfl) ?_
          refine lv_iand hx hb dX0_locate_125 ?_
          refine lv_if_ne (tgt := 139) hx hb dX0_locate_126 (by decide) (fun c28 => ?_) (fun c28 => ?_)
          · refine lv_iconst (v := (-1)) hx hb dX0_locate_139 (by decide) ?_
            refine lv_iload_n hx hb dX0_locate_140 rfl (lv_at hl 7 rfl) ?_
            refine W.callR (W.runS (As := [.int p2]) (rest := [.int (-1)]) ⟨hx, hb, hml, hown, hts⟩ (ch_pageCause l p2) (cwS 1 hts (gS mL_0_90 mS_0_pageCause mN_0 mB_0_pageCause) rfl rfl rfl (by decide +kernel) ⟨Nat.le_of_ble_eq_true rfl, Nat.le_of_ble_eq_true rfl⟩) ⟨jblind, fun _ _ _ => ⟨rfl, trivial⟩⟩ rfl rfl hl.1 rfl (lv_room (Nat.le_of_ble_eq_true rfl)) dX0_locate_141 ⟨Nat.zero_le _, Nat.zero_le _⟩) ?_
            refine W.eq (g2 := F0 m 144 ls (.int (h_pageCause p2) :: [.int (-1)])) rfl ?_
            refine lv_topi (fun x29 ex29 => ?_)
            refine lv_isub hx hb dX0_locate_144 ?_
            exact W.iret (v := ((-1) : Int32) - x29) hx hb hr (fun t ht hW => ⟨jq (by subst ex29 ex27 ex26 ex24 ex23 ex22 ex9 ex7 ex6 ex1; exact (((if_neg c2).trans ((if_neg c8).trans ((if_pos c10).trans ((if_neg c25).trans ((if_neg c28).trans rfl)))))).symm), ht.trans hHe⟩) (fun q h => (hN q h).elim) dX0_locate_145
          · refine lv_aload_n hx hb dX0_locate_129 rfl (lv_at hl 5 rfl) ?_
            refine lv_iload hx hb dX0_locate_130 (lv_at hl 1 rfl) ?_
            refine lv_iload_n hx hb dX0_locate_132 rfl (lv_at hl 7 rfl) ?_
            refine gR (As := [.int x26, .int p2]) (rest := []) (f := h_permits st x26 p2) ⟨hx, hb, hml, hown, hts⟩ (ch_permits l dC dI cI h0 qme0 qre1 qco2 tN tB H.size st x26 p2) (cwV 2 hts (gV mL_0_86 mI_0_permits mX_0_permits mN_0 mB_0_permits) rfl rfl rfl (by decide +kernel) ⟨Nat.le_of_ble_eq_true rfl, Nat.le_of_ble_eq_true rfl⟩) hK hP hD hS hZ rfl hl.1 rfl (Nat.le_of_ble_eq_true rfl) dX0_locate_133 ⟨Nat.zero_le _, Nat.zero_le _⟩ ?_
            refine lv_topi (fun x30 ex30 => ?_)
            refine lv_if_ne (tgt := 146) hx hb dX0_locate_136 (by decide) (fun c31 => ?_) (fun c31 => ?_)
            · refine lv_iload hx hb dX0_locate_146 (lv_at hl 1 rfl) ?_
              refine W.callR (W.runS (As := [.int x26]) (rest := []) ⟨hx, hb, hml, hown, hts⟩ (ch_frameOf l x26) (cwS 1 hts (gS mL_0_83 mS_0_frameOf mN_0 mB_0_frameOf) rfl rfl rfl (by decide +kernel) ⟨Nat.le_of_ble_eq_true rfl, Nat.le_of_ble_eq_true rfl⟩) ⟨jblind, fun _ _ _ => ⟨rfl, trivial⟩⟩ rfl rfl hl.1 rfl (lv_room (Nat.le_of_ble_eq_true rfl)) dX0_locate_148 ⟨Nat.zero_le _, Nat.zero_le _⟩) ?_
              refine W.eq (g2 := F0 m 151 ls (.int (h_frameOf x26) :: [])) rfl ?_
              refine lv_topi (fun x32 ex32 => ?_)
              refine lv_iload_n hx hb dX0_locate_151 rfl (lv_at hl 6 rfl) ?_
              refine lv_iload hx hb dX0_locate_152 (lv_at hl 0 rfl) ?_
              refine lv_iand hx hb dX0_locate_154 ?_
              refine lv_iadd hx hb dX0_locate_155 ?_
              refine lv_topi (fun x33 ex33 => ?_)
              refine lv_istore_n (lv' := [(3, .int x33), (7, .int 4095), (6, .int x26), (5, .int x23), (4, .int x1), (0, .ref h0), (1, .int p1), (2, .int p2)]) hx hb dX0_locate_156 rfl hl (by decide) rfl (fun ls hl => ?_)
              refine lv_iload_n hx hb dX0_locate_157 rfl (lv_at hl 0 rfl) ?_
              refine W.callR (W.runS (As := [.int x33]) (rest := []) ⟨hx, hb, hml, hown, hts⟩ (ch_isInMemory l x33) (cwS 1 hts (gS mL_0_73 mS_0_isInMemory mN_0 mB_0_isInMemory) rfl rfl rfl (by decide +kernel) ⟨Nat.le_of_ble_eq_true rfl, Nat.le_of_ble_eq_true rfl⟩) ⟨jblind, fun _ _ _ => ⟨rfl, trivial⟩⟩ rfl rfl hl.1 rfl (lv_room (Nat.le_of_ble_eq_true rfl)) dX0_locate_158 ⟨Nat.zero_le _, Nat.zero_le _⟩) ?_
              refine W.eq (g2 := F0 m 161 ls (.int (h_isInMemory x33) :: [])) rfl ?_
              refine lv_topi (fun x34 ex34 => ?_)
              refine lv_if_eq (tgt := 168) hx hb dX0_locate_161 (by decide) (fun c35 => ?_) (fun c35 => ?_)
              · refine lv_iconst (v := (-1)) hx hb dX0_locate_168 (by decide) ?_
                refine lv_iload_n hx hb dX0_locate_169 rfl (lv_at hl 7 rfl) ?_
                refine W.callR (W.runS (As := [.int p2]) (rest := [.int (-1)]) ⟨hx, hb, hml, hown, hts⟩ (ch_accessCause l p2) (cwS 1 hts (gS mL_0_79 mS_0_accessCause mN_0 mB_0_accessCause) rfl rfl rfl (by decide +kernel) ⟨Nat.le_of_ble_eq_true rfl, Nat.le_of_ble_eq_true rfl⟩) ⟨jblind, fun _ _ _ => ⟨rfl, trivial⟩⟩ rfl rfl hl.1 rfl (lv_room (Nat.le_of_ble_eq_true rfl)) dX0_locate_170 ⟨Nat.zero_le _, Nat.zero_le _⟩) ?_
                refine W.eq (g2 := F0 m 173 ls (.int (h_accessCause p2) :: [.int (-1)])) rfl ?_
                refine lv_topi (fun x36 ex36 => ?_)
                refine lv_isub hx hb dX0_locate_173 ?_
                exact W.iret (v := ((-1) : Int32) - x36) hx hb hr (fun t ht hW => ⟨jq (by subst ex36 ex34 ex33 ex32 ex30 ex27 ex26 ex24 ex23 ex22 ex9 ex7 ex6 ex1; exact (((if_neg c2).trans ((if_neg c8).trans ((if_pos c10).trans ((if_neg c25).trans ((if_pos c28).trans ((if_neg c31).trans ((if_pos c35).trans rfl)))))))).symm), ht.trans hHe⟩) (fun q h => (hN q h).elim) dX0_locate_174
              · refine lv_iload_n hx hb dX0_locate_164 rfl (lv_at hl 0 rfl) ?_
                refine lv_goto (tgt := 174) hx hb dX0_locate_165 (by decide) ?_
                exact W.iret (v := x33) hx hb hr (fun t ht hW => ⟨jq (by subst ex34 ex33 ex32 ex30 ex27 ex26 ex24 ex23 ex22 ex9 ex7 ex6 ex1; exact (((if_neg c2).trans ((if_neg c8).trans ((if_pos c10).trans ((if_neg c25).trans ((if_pos c28).trans ((if_neg c31).trans ((if_neg c35).trans rfl)))))))).symm), ht.trans hHe⟩) (fun q h => (hN q h).elim) dX0_locate_174
            · refine lv_iconst (v := (-1)) hx hb dX0_locate_139 (by decide) ?_
              refine lv_iload_n hx hb dX0_locate_140 rfl (lv_at hl 7 rfl) ?_
              refine W.callR (W.runS (As := [.int p2]) (rest := [.int (-1)]) ⟨hx, hb, hml, hown, hts⟩ (ch_pageCause l p2) (cwS 1 hts (gS mL_0_90 mS_0_pageCause mN_0 mB_0_pageCause) rfl rfl rfl (by decide +kernel) ⟨Nat.le_of_ble_eq_true rfl, Nat.le_of_ble_eq_true rfl⟩) ⟨jblind, fun _ _ _ => ⟨rfl, trivial⟩⟩ rfl rfl hl.1 rfl (lv_room (Nat.le_of_ble_eq_true rfl)) dX0_locate_141 ⟨Nat.zero_le _, Nat.zero_le _⟩) ?_
              refine W.eq (g2 := F0 m 144 ls (.int (h_pageCause p2) :: [.int (-1)])) rfl ?_
              refine lv_topi (fun x37 ex37 => ?_)
              refine lv_isub hx hb dX0_locate_144 ?_
              exact W.iret (v := ((-1) : Int32) - x37) hx hb hr (fun t ht hW => ⟨jq (by subst ex37 ex30 ex27 ex26 ex24 ex23 ex22 ex9 ex7 ex6 ex1; exact (((if_neg c2).trans ((if_neg c8).trans ((if_pos c10).trans ((if_neg c25).trans ((if_pos c28).trans ((if_pos c31).trans rfl))))))).symm), ht.trans hHe⟩) (fun q h => (hN q h).elim) dX0_locate_145
        · refine lv_iconst (v := (-1)) hx hb dX0_locate_95 (by decide) ?_
          refine lv_iload_n hx hb dX0_locate_96 rfl (lv_at hl 7 rfl) ?_
          refine W.callR (W.runS (As := [.int p2]) (rest := [.int (-1)]) ⟨hx, hb, hml, hown, hts⟩ (ch_accessCause l p2) (cwS 1 hts (gS mL_0_79 mS_0_accessCause mN_0 mB_0_accessCause) rfl rfl rfl (by decide +kernel) ⟨Nat.le_of_ble_eq_true rfl, Nat.le_of_ble_eq_true rfl⟩) ⟨jblind, fun _ _ _ => ⟨rfl, trivial⟩⟩ rfl rfl hl.1 rfl (lv_room (Nat.le_of_ble_eq_true rfl)) dX0_locate_97 ⟨Nat.zero_le _, Nat.zero_le _⟩) ?_
          refine W.eq (g2 := F0 m 100 ls (.int (h_accessCause p2) :: [.int (-1)])) rfl ?_
          refine lv_topi (fun x38 ex38 => ?_)
          refine lv_isub hx hb dX0_locate_100 ?_
          exact W.iret (v := ((-1) : Int32) - x38) hx hb hr (fun t ht hW => ⟨jq (by subst ex38 ex24 ex23 ex22 ex9 ex7 ex6 ex1; exact (((if_neg c2).trans ((if_neg c8).trans ((if_pos c10).trans ((if_pos c25).trans rfl))))).symm), ht.trans hHe⟩) (fun q h => (hN q h).elim) dX0_locate_101
    · refine lv_iconst (v := (-1)) hx hb dX0_locate_38 (by decide) ?_
      refine lv_iload_n hx hb dX0_locate_39 rfl (lv_at hl 5 rfl) ?_
      refine W.callR (W.runS (As := [.int p2]) (rest := [.int (-1)]) ⟨hx, hb, hml, hown, hts⟩ (ch_accessCause l p2) (cwS 1 hts (gS mL_0_79 mS_0_accessCause mN_0 mB_0_accessCause) rfl rfl rfl (by decide +kernel) ⟨Nat.le_of_ble_eq_true rfl, Nat.le_of_ble_eq_true rfl⟩) ⟨jblind, fun _ _ _ => ⟨rfl, trivial⟩⟩ rfl rfl hl.1 rfl (lv_room (Nat.le_of_ble_eq_true rfl)) dX0_locate_40 ⟨Nat.zero_le _, Nat.zero_le _⟩) ?_
      refine W.eq (g2 := F0 m 43 ls (.int (h_accessCause p2) :: [.int (-1)])) rfl ?_
      refine lv_topi (fun x39 ex39 => ?_)
      refine lv_isub hx hb dX0_locate_43 ?_
      exact W.iret (v := ((-1) : Int32) - x39) hx hb hr (fun t ht hW => ⟨jq (by subst ex39 ex7 ex6 ex1; exact (((if_neg c2).trans ((if_pos c8).trans rfl))).symm), ht.trans hHe⟩) (fun q h => (hN q h).elim) dX0_locate_44
theorem h_locmem (st : HS) (a b : Int32) (h : 0 ≤ h_locate st a b) : ¬ h_isInMemory (h_locate st a b) = 0 := by
  revert h
  unfold h_locate
  dsimp only
  (repeat' split) <;> intro h <;> first | with_reducible assumption | with_reducible exact absurd h (h_nA _) | with_reducible exact absurd h (h_nP _)

def h_locateAligned (st : HS) (p1 : Int32) (p2 : Int32) (p3 : Int32) : Int32 :=
  if (p1 &&& (p3 - (1 : Int32))) = 0 then
    let x2 : Int32 := h_locate st p1 p2
    x2
  else
    let x3 : Int32 := h_misalignedCause p2
    (((-1) : Int32) - x3)
set_option maxHeartbeats 4000000 in
set_option maxRecDepth 100000 in
theorem ch_locateAligned (l : Launch) (dC : Nat → ClassId) (dI : Nat → Nat → Nat) (cI h0 qme0 qre1 qco2 tN tB : Nat) (sz : Nat) (st : HS) (p1 : Int32) (p2 : Int32) (p3 : Int32)  : Met l yX0_locateAligned (.code yX0_locateAligned cX0_locateAligned 4 (some .int) :: gBIG) ({ frames := 2, cells := 0, slots := 0, locals := 52 }) (va_Pc [.ref h0, .int p1, .int p2, .int p3] (gPre dC dI cI h0 qme0 qre1 qco2 tN tB sz st)) (QcRead (h_locateAligned st p1 p2 p3)) 0 0 (fun _ => False) := by
  refine Met.ofW (cc := cX0_locateAligned) (maxL := 4) (ret := (some .int)) (by decide) rfl ?_
  intro p e s m args below meth c s₁ B hml hv
  obtain ⟨rfl, hsz, hP, hK, hD0, hZ⟩ := hv
  have hx := B.exec
  have hb := B.bytes
  have hr := B.returns
  have hts : ∀ w ∈ gBIG, w.before _ s = true := fun w h => atoms_spec (ws := (.code yX0_locateAligned cX0_locateAligned 4 (some .int) :: gBIG)) B.pre w (List.mem_cons_of_mem _ h)
  have hown : s.vm.findClass "PagedHart" = some m.cls := findClass_of_methodNamed B.named
  have hlocks := B.notSynchronized
  subst hsz
  have hD : va_D (gA h0 qme0 qre1 qco2 s.heap.size) (gW cI h0 qme0 qre1 qco2 st) := gD hD0
  have hS : va_S (gA h0 qme0 qre1 qco2 s.heap.size) s.heap s.heap [] := va_S.rf
  have hP : va_P (dC, dI) vwCl (gW cI h0 qme0 qre1 qco2 st) s.heap := hP
  have hl := lv_entry ([.ref h0, .int p1, .int p2, .int p3]) (n := 4) (Nat.le_of_ble_eq_true rfl)
  rw [lg_entry_eq]
  generalize (lg_sl ([.ref h0, .int p1, .int p2, .int p3]) ++ List.replicate (4 - (lg_sl ([.ref h0, .int p1, .int p2, .int p3])).length) Slot.unset).toArray = ls at hl ⊢
  refine jgo (P := fun H locs => va_P (dC, dI) vwCl (gW cI h0 qme0 qre1 qco2 st) H ∧ va_S (gA h0 qme0 qre1 qco2 s.heap.size) s.heap H locs ∧ H = s.heap ∧ ∀ q ∈ locs, False) ⟨hP, hS, rfl, fun q h => by cases h⟩ (fun H locs hPS => ?_)
  obtain ⟨hP, hS, hHe, hN⟩ := hPS
  have hl : lv_has ls 4 [(0, .ref h0), (1, .int p1), (2, .int p2), (3, .int p3)] := hl
  refine lv_iload_n hx hb dX0_locateAligned_0 rfl (lv_at hl 1 rfl) ?_
  refine lv_iload_n hx hb dX0_locateAligned_1 rfl (lv_at hl 3 rfl) ?_
  refine lv_iconst (v := 1) hx hb dX0_locateAligned_2 (by decide) ?_
  refine lv_isub hx hb dX0_locateAligned_3 ?_
  refine lv_iand hx hb dX0_locateAligned_4 ?_
  refine lv_if_eq (tgt := 15) hx hb dX0_locateAligned_5 (by decide) (fun c1 => ?_) (fun c1 => ?_)
  · refine lv_aload_n hx hb dX0_locateAligned_15 rfl (lv_at hl 0 rfl) ?_
    refine lv_iload_n hx hb dX0_locateAligned_16 rfl (lv_at hl 1 rfl) ?_
    refine lv_iload_n hx hb dX0_locateAligned_17 rfl (lv_at hl 2 rfl) ?_
    refine gR (As := [.int p1, .int p2]) (rest := []) (f := h_locate st p1 p2) ⟨hx, hb, hml, hown, hts⟩ (ch_locate l dC dI cI h0 qme0 qre1 qco2 tN tB H.size st p1 p2) (cwV 2 hts (gV mL_0_68 mI_0_locate mX_0_locate mN_0 mB_0_locate) rfl rfl rfl (by decide +kernel) ⟨Nat.le_of_ble_eq_true rfl, Nat.le_of_ble_eq_true rfl⟩) hK hP hD hS hZ rfl hl.1 rfl (Nat.le_of_ble_eq_true rfl) dX0_locateAligned_18 ⟨Nat.zero_le _, Nat.zero_le _⟩ ?_
    refine lv_topi (fun x2 ex2 => ?_)
    exact W.iret (v := x2) hx hb hr (fun t ht hW => ⟨jq (by subst ex2; exact (((if_pos c1).trans rfl)).symm), ht.trans hHe⟩) (fun q h => (hN q h).elim) dX0_locateAligned_21
  · refine lv_iconst (v := (-1)) hx hb dX0_locateAligned_8 (by decide) ?_
    refine lv_iload_n hx hb dX0_locateAligned_9 rfl (lv_at hl 2 rfl) ?_
    refine W.callR (W.runS (As := [.int p2]) (rest := [.int (-1)]) ⟨hx, hb, hml, hown, hts⟩ (ch_misalignedCause l p2) (cwS 1 hts (gS mL_0_76 mS_0_misalignedCause mN_0 mB_0_misalignedCause) rfl rfl rfl (by decide +kernel) ⟨Nat.le_of_ble_eq_true rfl, Nat.le_of_ble_eq_true rfl⟩) ⟨jblind, fun _ _ _ => ⟨rfl, trivial⟩⟩ rfl rfl hl.1 rfl (lv_room (Nat.le_of_ble_eq_true rfl)) dX0_locateAligned_10 ⟨Nat.zero_le _, Nat.zero_le _⟩) ?_
    refine W.eq (g2 := F0 m 13 ls (.int (h_misalignedCause p2) :: [.int (-1)])) rfl ?_
    refine lv_topi (fun x3 ex3 => ?_)
    refine lv_isub hx hb dX0_locateAligned_13 ?_
    exact W.iret (v := ((-1) : Int32) - x3) hx hb hr (fun t ht hW => ⟨jq (by subst ex3; exact (((if_neg c1).trans rfl)).symm), ht.trans hHe⟩) (fun q h => (hN q h).elim) dX0_locateAligned_14
theorem h_almem (st : HS) (a b c : Int32) (h : 0 ≤ h_locateAligned st a b c) : ¬ h_isInMemory (h_locateAligned st a b c) = 0 := by
  revert h
  unfold h_locateAligned
  dsimp only
  (repeat' split) <;> intro h <;> first | with_reducible exact h_locmem _ _ _ h | with_reducible exact absurd h (h_nM _)
theorem h_in2 {st : HS} {a b c : Int32} (h : 0 ≤ h_locateAligned st a b c) : vp_in (jush (h_locateAligned st a b c) (2 : Int32)) 65536 := h_in1 (h_almem st a b c h)

def h_aOf (st : HS) (p1 : Int32) : Int32 :=
  (st.2.1 ((jush p1 (15 : Int32)) &&& (31 : Int32)).toNatClampNeg)
set_option maxHeartbeats 4000000 in
set_option maxRecDepth 100000 in
theorem ch_aOf (l : Launch) (dC : Nat → ClassId) (dI : Nat → Nat → Nat) (cI h0 qme0 qre1 qco2 tN tB : Nat) (sz : Nat) (st : HS) (p1 : Int32)  : Met l yX0_aOf (.code yX0_aOf cX0_aOf 2 (some .int) :: gBIG) ({ frames := 0, cells := 0, slots := 0, locals := 0 }) (va_Pc [.ref h0, .int p1] (gPre dC dI cI h0 qme0 qre1 qco2 tN tB sz st)) (QcRead (h_aOf st p1)) 0 0 (fun _ => False) := by
  refine Met.ofW (cc := cX0_aOf) (maxL := 2) (ret := (some .int)) (by decide) rfl ?_
  intro p e s m args below meth c s₁ B hml hv
  obtain ⟨rfl, hsz, hP, hK, hD0, hZ⟩ := hv
  have hx := B.exec
  have hb := B.bytes
  have hr := B.returns
  have hts : ∀ w ∈ gBIG, w.before _ s = true := fun w h => atoms_spec (ws := (.code yX0_aOf cX0_aOf 2 (some .int) :: gBIG)) B.pre w (List.mem_cons_of_mem _ h)
  have hown : s.vm.findClass "PagedHart" = some m.cls := findClass_of_methodNamed B.named
  have hlocks := B.notSynchronized
  subst hsz
  have hD : va_D (gA h0 qme0 qre1 qco2 s.heap.size) (gW cI h0 qme0 qre1 qco2 st) := gD hD0
  have hS : va_S (gA h0 qme0 qre1 qco2 s.heap.size) s.heap s.heap [] := va_S.rf
  have hP : va_P (dC, dI) vwCl (gW cI h0 qme0 qre1 qco2 st) s.heap := hP
  have hl := lv_entry ([.ref h0, .int p1]) (n := 2) (Nat.le_of_ble_eq_true rfl)
  rw [lg_entry_eq]
  generalize (lg_sl ([.ref h0, .int p1]) ++ List.replicate (2 - (lg_sl ([.ref h0, .int p1])).length) Slot.unset).toArray = ls at hl ⊢
  refine jgo (P := fun H locs => va_P (dC, dI) vwCl (gW cI h0 qme0 qre1 qco2 st) H ∧ va_S (gA h0 qme0 qre1 qco2 s.heap.size) s.heap H locs ∧ H = s.heap ∧ ∀ q ∈ locs, False) ⟨hP, hS, rfl, fun q h => by cases h⟩ (fun H locs hPS => ?_)
  obtain ⟨hP, hS, hHe, hN⟩ := hPS
  have hl : lv_has ls 2 [(0, .ref h0), (1, .int p1)] := hl
  refine lv_aload_n hx hb dX0_aOf_0 rfl (lv_at hl 0 rfl) ?_
  refine va_get (D := (dC, dI)) (ci := 0) (v := .ref qre1) (C := "PagedHart") (T := TX0) (N := 6) hx hb hts mU0 hown hK hP 0 rfl rfl 1 (by decide) (hts _ mF_0_14) (fun _ h9 => h9) rfl dX0_aOf_1 ?_
  refine lv_iload_n hx hb dX0_aOf_4 rfl (lv_at hl 1 rfl) ?_
  refine lv_bipush (v := 15) hx hb dX0_aOf_5 (by decide) ?_
  refine lv_iushr (v := jush p1 (15 : Int32)) hx hb dX0_aOf_7 rfl ?_
  refine lv_bipush (v := 31) hx hb dX0_aOf_8 (by decide) ?_
  refine lv_iand hx hb dX0_aOf_10 ?_
  refine va_iald (D := (dC, dI)) hx hb hK hP 2 0 rfl rfl (pk_andIn _ 5 rfl (by decide)) dX0_aOf_11 ?_
  exact W.iret (v := st.2.1 ((jush p1 (15 : Int32)) &&& (31 : Int32)).toNatClampNeg) hx hb hr (fun t ht hW => ⟨jq (by exact (rfl).symm), ht.trans hHe⟩) (fun q h => (hN q h).elim) dX0_aOf_12

def h_bOf (st : HS) (p1 : Int32) : Int32 :=
  (st.2.1 ((jush p1 (20 : Int32)) &&& (31 : Int32)).toNatClampNeg)
set_option maxHeartbeats 4000000 in
set_option maxRecDepth 100000 in
theorem ch_bOf (l : Launch) (dC : Nat → ClassId) (dI : Nat → Nat → Nat) (cI h0 qme0 qre1 qco2 tN tB : Nat) (sz : Nat) (st : HS) (p1 : Int32)  : Met l yX0_bOf (.code yX0_bOf cX0_bOf 2 (some .int) :: gBIG) ({ frames := 0, cells := 0, slots := 0, locals := 0 }) (va_Pc [.ref h0, .int p1] (gPre dC dI cI h0 qme0 qre1 qco2 tN tB sz st)) (QcRead (h_bOf st p1)) 0 0 (fun _ => False) := by
  refine Met.ofW (cc := cX0_bOf) (maxL := 2) (ret := (some .int)) (by decide) rfl ?_
  intro p e s m args below meth c s₁ B hml hv
  obtain ⟨rfl, hsz, hP, hK, hD0, hZ⟩ := hv
  have hx := B.exec
  have hb := B.bytes
  have hr := B.returns
  have hts : ∀ w ∈ gBIG, w.before _ s = true := fun w h => atoms_spec (ws := (.code yX0_bOf cX0_bOf 2 (some .int) :: gBIG)) B.pre w (List.mem_cons_of_mem _ h)
  have hown : s.vm.findClass "PagedHart" = some m.cls := findClass_of_methodNamed B.named
  have hlocks := B.notSynchronized
  subst hsz
  have hD : va_D (gA h0 qme0 qre1 qco2 s.heap.size) (gW cI h0 qme0 qre1 qco2 st) := gD hD0
  have hS : va_S (gA h0 qme0 qre1 qco2 s.heap.size) s.heap s.heap [] := va_S.rf
  have hP : va_P (dC, dI) vwCl (gW cI h0 qme0 qre1 qco2 st) s.heap := hP
  have hl := lv_entry ([.ref h0, .int p1]) (n := 2) (Nat.le_of_ble_eq_true rfl)
  rw [lg_entry_eq]
  generalize (lg_sl ([.ref h0, .int p1]) ++ List.replicate (2 - (lg_sl ([.ref h0, .int p1])).length) Slot.unset).toArray = ls at hl ⊢
  refine jgo (P := fun H locs => va_P (dC, dI) vwCl (gW cI h0 qme0 qre1 qco2 st) H ∧ va_S (gA h0 qme0 qre1 qco2 s.heap.size) s.heap H locs ∧ H = s.heap ∧ ∀ q ∈ locs, False) ⟨hP, hS, rfl, fun q h => by cases h⟩ (fun H locs hPS => ?_)
  obtain ⟨hP, hS, hHe, hN⟩ := hPS
  have hl : lv_has ls 2 [(0, .ref h0), (1, .int p1)] := hl
  refine lv_aload_n hx hb dX0_bOf_0 rfl (lv_at hl 0 rfl) ?_
  refine va_get (D := (dC, dI)) (ci := 0) (v := .ref qre1) (C := "PagedHart") (T := TX0) (N := 6) hx hb hts mU0 hown hK hP 0 rfl rfl 1 (by decide) (hts _ mF_0_14) (fun _ h9 => h9) rfl dX0_bOf_1 ?_
  refine lv_iload_n hx hb dX0_bOf_4 rfl (lv_at hl 1 rfl) ?_
  refine lv_bipush (v := 20) hx hb dX0_bOf_5 (by decide) ?_
  refine lv_iushr (v := jush p1 (20 : Int32)) hx hb dX0_bOf_7 rfl ?_
  refine lv_bipush (v := 31) hx hb dX0_bOf_8 (by decide) ?_
  refine lv_iand hx hb dX0_bOf_10 ?_
  refine va_iald (D := (dC, dI)) hx hb hK hP 2 0 rfl rfl (pk_andIn _ 5 rfl (by decide)) dX0_bOf_11 ?_
  exact W.iret (v := st.2.1 ((jush p1 (20 : Int32)) &&& (31 : Int32)).toNatClampNeg) hx hb hr (fun t ht hW => ⟨jq (by exact (rfl).symm), ht.trans hHe⟩) (fun q h => (hN q h).elim) dX0_bOf_12

def h_called (st : HS)  : Int32 :=
  st.2.2.2.2.2
set_option maxHeartbeats 4000000 in
set_option maxRecDepth 100000 in
theorem ch_called (l : Launch) (dC : Nat → ClassId) (dI : Nat → Nat → Nat) (cI h0 qme0 qre1 qco2 tN tB : Nat) (sz : Nat) (st : HS)  (he : st.2.2.2.2.2 = 0 ∨ st.2.2.2.2.2 = 1)  : Met l yX0_called (.code yX0_called cX0_called 1 (some .boolean) :: gBIG) ({ frames := 0, cells := 0, slots := 0, locals := 0 }) (va_Pc [.ref h0] (gPre dC dI cI h0 qme0 qre1 qco2 tN tB sz st)) (QcRead (h_called st)) 0 0 (fun _ => False) := by
  refine Met.ofW (cc := cX0_called) (maxL := 1) (ret := (some .boolean)) (by decide) rfl ?_
  intro p e s m args below meth c s₁ B hml hv
  obtain ⟨rfl, hsz, hP, hK, hD0, hZ⟩ := hv
  have hx := B.exec
  have hb := B.bytes
  have hr := B.returns
  have hts : ∀ w ∈ gBIG, w.before _ s = true := fun w h => atoms_spec (ws := (.code yX0_called cX0_called 1 (some .boolean) :: gBIG)) B.pre w (List.mem_cons_of_mem _ h)
  have hown : s.vm.findClass "PagedHart" = some m.cls := findClass_of_methodNamed B.named
  have hlocks := B.notSynchronized
  subst hsz
  have hD : va_D (gA h0 qme0 qre1 qco2 s.heap.size) (gW cI h0 qme0 qre1 qco2 st) := gD hD0
  have hS : va_S (gA h0 qme0 qre1 qco2 s.heap.size) s.heap s.heap [] := va_S.rf
  have hP : va_P (dC, dI) vwCl (gW cI h0 qme0 qre1 qco2 st) s.heap := hP
  have hl := lv_entry ([.ref h0]) (n := 1) (Nat.le_of_ble_eq_true rfl)
  rw [lg_entry_eq]
  generalize (lg_sl ([.ref h0]) ++ List.replicate (1 - (lg_sl ([.ref h0])).length) Slot.unset).toArray = ls at hl ⊢
  refine jgo (P := fun H locs => va_P (dC, dI) vwCl (gW cI h0 qme0 qre1 qco2 st) H ∧ va_S (gA h0 qme0 qre1 qco2 s.heap.size) s.heap H locs ∧ H = s.heap ∧ ∀ q ∈ locs, False) ⟨hP, hS, rfl, fun q h => by cases h⟩ (fun H locs hPS => ?_)
  obtain ⟨hP, hS, hHe, hN⟩ := hPS
  have hl : lv_has ls 1 [(0, .ref h0)] := hl
  refine lv_aload_n hx hb dX0_called_0 rfl (lv_at hl 0 rfl) ?_
  refine va_get (D := (dC, dI)) (ci := 0) (v := .int st.2.2.2.2.2) (C := "PagedHart") (T := TX0) (N := 6) hx hb hts mU0 hown hK hP 0 rfl rfl 5 (by decide) (hts _ mF_0_27) (fun _ h9 => h9) rfl dX0_called_1 ?_
  exact W.zret (v := st.2.2.2.2.2) hx hb hr (jnb he) (fun t ht hW => ⟨jq (by exact (rfl).symm), ht.trans hHe⟩) (fun q h => (hN q h).elim) dX0_called_4
end
section
def h_countDown (st : HS) (p1 : Int32) : HS :=
  if (st.2.2.1 p1.toNatClampNeg) = ((-1) : Int32) then
    st
  else
    (st.1, st.2.1, upd st.2.2.1 p1.toNatClampNeg ((st.2.2.1 p1.toNatClampNeg) - (1 : Int32)), st.2.2.2.1, st.2.2.2.2.1, st.2.2.2.2.2)
set_option maxHeartbeats 4000000 in
set_option maxRecDepth 100000 in
theorem ch_countDown (l : Launch) (dC : Nat → ClassId) (dI : Nat → Nat → Nat) (cI h0 qme0 qre1 qco2 tN tB : Nat) (sz : Nat) (st : HS) (p1 : Int32) (hp1 : vp_in p1 9)  : Met l yX0_countDown (.code yX0_countDown cX0_countDown 2 none :: gBIG) ({ frames := 0, cells := 0, slots := 0, locals := 0 }) (va_Pc [.ref h0, .int p1] (gPre dC dI cI h0 qme0 qre1 qco2 tN tB sz st)) (va_Qv (fun v => v = h_countDown st p1) (gB dC dI cI h0 qme0 qre1 qco2 (gA h0 qme0 qre1 qco2 sz)) (gA h0 qme0 qre1 qco2 sz)) 0 0 (gA h0 qme0 qre1 qco2 sz) := by
  refine Met.ofW (cc := cX0_countDown) (maxL := 2) (ret := none) (by decide) rfl ?_
  intro p e s m args below meth c s₁ B hml hv
  obtain ⟨rfl, hsz, hP, hK, hD0, hZ⟩ := hv
  have hx := B.exec
  have hb := B.bytes
  have hr := B.returns
  have hts : ∀ w ∈ gBIG, w.before _ s = true := fun w h => atoms_spec (ws := (.code yX0_countDown cX0_countDown 2 none :: gBIG)) B.pre w (List.mem_cons_of_mem _ h)
  have hown : s.vm.findClass "PagedHart" = some m.cls := findClass_of_methodNamed B.named
  have hlocks := B.notSynchronized
  subst hsz
  have hD : va_D (gA h0 qme0 qre1 qco2 s.heap.size) (gW cI h0 qme0 qre1 qco2 st) := gD hD0
  have hS : va_S (gA h0 qme0 qre1 qco2 s.heap.size) s.heap s.heap [] := va_S.rf
  have hP : va_P (dC, dI) vwCl (gW cI h0 qme0 qre1 qco2 st) s.heap := hP
  have hl := lv_entry ([.ref h0, .int p1]) (n := 2) (Nat.le_of_ble_eq_true rfl)
  rw [lg_entry_eq]
  generalize (lg_sl ([.ref h0, .int p1]) ++ List.replicate (2 - (lg_sl ([.ref h0, .int p1])).length) Slot.unset).toArray = ls at hl ⊢
  refine jgo (P := fun H locs => va_P (dC, dI) vwCl (gW cI h0 qme0 qre1 qco2 st) H ∧ va_S (gA h0 qme0 qre1 qco2 s.heap.size) s.heap H locs) ⟨hP, hS⟩ (fun H locs hPS => ?_)
  obtain ⟨hP, hS⟩ := hPS
  have hl : lv_has ls 2 [(0, .ref h0), (1, .int p1)] := hl
  refine lv_aload_n hx hb dX0_countDown_0 rfl (lv_at hl 0 rfl) ?_
  refine va_get (D := (dC, dI)) (ci := 0) (v := .ref qco2) (C := "PagedHart") (T := TX0) (N := 6) hx hb hts mU0 hown hK hP 0 rfl rfl 2 (by decide) (hts _ mF_0_17) (fun _ h9 => h9) rfl dX0_countDown_1 ?_
  refine lv_iload_n hx hb dX0_countDown_4 rfl (lv_at hl 1 rfl) ?_
  refine va_iald (D := (dC, dI)) hx hb hK hP 3 0 rfl rfl hp1 dX0_countDown_5 ?_
  refine lv_iconst (v := (-1)) hx hb dX0_countDown_6 (by decide) ?_
  refine lv_icmp_eq (tgt := 20) hx hb dX0_countDown_7 (by decide) (fun c1 => ?_) (fun c1 => ?_)
  · exact gVret (u := st) hx hb hr hlocks (by exact (((if_pos c1).trans rfl)).symm) hK hP hD hS dX0_countDown_20
  · refine lv_aload_n hx hb dX0_countDown_10 rfl (lv_at hl 0 rfl) ?_
    refine va_get (D := (dC, dI)) (ci := 0) (v := .ref qco2) (C := "PagedHart") (T := TX0) (N := 6) hx hb hts mU0 hown hK hP 0 rfl rfl 2 (by decide) (hts _ mF_0_17) (fun _ h9 => h9) rfl dX0_countDown_11 ?_
    refine lv_iload_n hx hb dX0_countDown_14 rfl (lv_at hl 1 rfl) ?_
    refine lv_dup2_11 hx hb dX0_countDown_15 rfl rfl ?_
    refine va_iald (D := (dC, dI)) hx hb hK hP 3 0 rfl rfl hp1 dX0_countDown_16 ?_
    refine lv_iconst (v := 1) hx hb dX0_countDown_17 (by decide) ?_
    refine lv_isub hx hb dX0_countDown_18 ?_
    refine va_iast (D := (dC, dI)) hx hb hK hP hD hS 3 0 rfl rfl hp1 dX0_countDown_19 (fun H locs hP hD hS => ?_)
    have hP : va_P (dC, dI) vwCl (gW cI h0 qme0 qre1 qco2 (st.1, st.2.1, upd st.2.2.1 p1.toNatClampNeg ((st.2.2.1 p1.toNatClampNeg) - (1 : Int32)), st.2.2.2.1, st.2.2.2.2.1, st.2.2.2.2.2)) H := hP
    have hD : va_D (gA h0 qme0 qre1 qco2 s.heap.size) (gW cI h0 qme0 qre1 qco2 (st.1, st.2.1, upd st.2.2.1 p1.toNatClampNeg ((st.2.2.1 p1.toNatClampNeg) - (1 : Int32)), st.2.2.2.1, st.2.2.2.2.1, st.2.2.2.2.2)) := hD
    exact gVret (u := (st.1, st.2.1, upd st.2.2.1 p1.toNatClampNeg ((st.2.2.1 p1.toNatClampNeg) - (1 : Int32)), st.2.2.2.1, st.2.2.2.2.1, st.2.2.2.2.2)) hx hb hr hlocks (by exact (((if_neg c1).trans rfl)).symm) hK hP hD hS dX0_countDown_20

def h_trap (st : HS) (p1 : Int32) (p2 : Int32) : Int32 × HS :=
  let x1 : Int32 := (upd (upd (upd st.2.2.1 (3 : Int32).toNatClampNeg (st.2.2.2.1 &&& (hBit (3 : Int32).toNatClampNeg))) (4 : Int32).toNatClampNeg p1) (5 : Int32).toNatClampNeg p2) (0 : Int32).toNatClampNeg
  let x2 : Int32 := (upd (upd (upd (upd st.2.2.1 (3 : Int32).toNatClampNeg (st.2.2.2.1 &&& (hBit (3 : Int32).toNatClampNeg))) (4 : Int32).toNatClampNeg p1) (5 : Int32).toNatClampNeg p2) (0 : Int32).toNatClampNeg ((x1 &&& (262144 : Int32)) ||| (st.2.2.2.2.1 <<< ((8 : Int32) &&& 31)))) (1 : Int32).toNatClampNeg
  ((0 : Int32), (st.1, st.2.1, upd (upd (upd (upd st.2.2.1 (3 : Int32).toNatClampNeg (st.2.2.2.1 &&& (hBit (3 : Int32).toNatClampNeg))) (4 : Int32).toNatClampNeg p1) (5 : Int32).toNatClampNeg p2) (0 : Int32).toNatClampNeg ((x1 &&& (262144 : Int32)) ||| (st.2.2.2.2.1 <<< ((8 : Int32) &&& 31))), x2, (1 : Int32), st.2.2.2.2.2))
set_option maxHeartbeats 4000000 in
set_option maxRecDepth 100000 in
theorem ch_trap (l : Launch) (dC : Nat → ClassId) (dI : Nat → Nat → Nat) (cI h0 qme0 qre1 qco2 tN tB : Nat) (sz : Nat) (st : HS) (p1 : Int32) (p2 : Int32)  : Met l yX0_trap (.code yX0_trap cX0_trap 3 (some .boolean) :: gBIG) ({ frames := 0, cells := 0, slots := 0, locals := 0 }) (va_Pc [.ref h0, .int p1, .int p2] (gPre dC dI cI h0 qme0 qre1 qco2 tN tB sz st)) (va_Qi (fun r v => (r, v) = h_trap st p1 p2) (gB dC dI cI h0 qme0 qre1 qco2 (gA h0 qme0 qre1 qco2 sz)) (gA h0 qme0 qre1 qco2 sz)) 0 0 (gA h0 qme0 qre1 qco2 sz) := by
  refine Met.ofW (cc := cX0_trap) (maxL := 3) (ret := (some .boolean)) (by decide) rfl ?_
  intro p e s m args below meth c s₁ B hml hv
  obtain ⟨rfl, hsz, hP, hK, hD0, hZ⟩ := hv
  have hx := B.exec
  have hb := B.bytes
  have hr := B.returns
  have hts : ∀ w ∈ gBIG, w.before _ s = true := fun w h => atoms_spec (ws := (.code yX0_trap cX0_trap 3 (some .boolean) :: gBIG)) B.pre w (List.mem_cons_of_mem _ h)
  have hown : s.vm.findClass "PagedHart" = some m.cls := findClass_of_methodNamed B.named
  have hlocks := B.notSynchronized
  subst hsz
  have hD : va_D (gA h0 qme0 qre1 qco2 s.heap.size) (gW cI h0 qme0 qre1 qco2 st) := gD hD0
  have hS : va_S (gA h0 qme0 qre1 qco2 s.heap.size) s.heap s.heap [] := va_S.rf
  have hP : va_P (dC, dI) vwCl (gW cI h0 qme0 qre1 qco2 st) s.heap := hP
  have hl := lv_entry ([.ref h0, .int p1, .int p2]) (n := 3) (Nat.le_of_ble_eq_true rfl)
  rw [lg_entry_eq]
  generalize (lg_sl ([.ref h0, .int p1, .int p2]) ++ List.replicate (3 - (lg_sl ([.ref h0, .int p1, .int p2])).length) Slot.unset).toArray = ls at hl ⊢
  refine jgo (P := fun H locs => va_P (dC, dI) vwCl (gW cI h0 qme0 qre1 qco2 st) H ∧ va_S (gA h0 qme0 qre1 qco2 s.heap.size) s.heap H locs) ⟨hP, hS⟩ (fun H locs hPS => ?_)
  obtain ⟨hP, hS⟩ := hPS
  have hl : lv_has ls 3 [(0, .ref h0), (1, .int p1), (2, .int p2)] := hl
  refine lv_aload_n hx hb dX0_trap_0 rfl (lv_at hl 0 rfl) ?_
  refine va_get (D := (dC, dI)) (ci := 0) (v := .ref qco2) (C := "PagedHart") (T := TX0) (N := 6) hx hb hts mU0 hown hK hP 0 rfl rfl 2 (by decide) (hts _ mF_0_17) (fun _ h9 => h9) rfl dX0_trap_1 ?_
  refine lv_iconst (v := 3) hx hb dX0_trap_4 (by decide) ?_
  refine lv_aload_n hx hb dX0_trap_5 rfl (lv_at hl 0 rfl) ?_
  refine va_get (D := (dC, dI)) (ci := 0) (v := .int st.2.2.2.1) (C := "PagedHart") (T := TX0) (N := 6) hx hb hts mU0 hown hK hP 0 rfl rfl 3 (by decide) (hts _ mF_0_20) (fun _ h9 => h9) rfl dX0_trap_6 ?_
  refine va_gets hx hb hZ.2.2.1 hS hown (hts _ mF_0_63) (fun _ h => h) dX0_trap_9 ?_
  refine lv_iconst (v := 3) hx hb dX0_trap_12 (by decide) ?_
  refine va_ti hx hb hZ.2.2.2 hS (jin (by decide)) (v := .int (hBit (3 : Int32).toNatClampNeg)) rfl dX0_trap_13 ?_
  refine lv_iand hx hb dX0_trap_14 ?_
  refine va_iast (D := (dC, dI)) hx hb hK hP hD hS 3 0 rfl rfl (jin (by decide)) dX0_trap_15 (fun H locs hP hD hS => ?_)
  have hP : va_P (dC, dI) vwCl (gW cI h0 qme0 qre1 qco2 (st.1, st.2.1, upd st.2.2.1 (3 : Int32).toNatClampNeg (st.2.2.2.1 &&& (hBit (3 : Int32).toNatClampNeg)), st.2.2.2.1, st.2.2.2.2.1, st.2.2.2.2.2)) H := hP
  have hD : va_D (gA h0 qme0 qre1 qco2 s.heap.size) (gW cI h0 qme0 qre1 qco2 (st.1, st.2.1, upd st.2.2.1 (3 : Int32).toNatClampNeg (st.2.2.2.1 &&& (hBit (3 : Int32).toNatClampNeg)), st.2.2.2.1, st.2.2.2.2.1, st.2.2.2.2.2)) := hD
  refine lv_aload_n hx hb dX0_trap_16 rfl (lv_at hl 0 rfl) ?_
  refine va_get (D := (dC, dI)) (ci := 0) (v := .ref qco2) (C := "PagedHart") (T := TX0) (N := 6) hx hb hts mU0 hown hK hP 0 rfl rfl 2 (by decide) (hts _ mF_0_17) (fun _ h9 => h9) rfl dX0_trap_17 ?_
  refine lv_iconst (v := 4) hx hb dX0_trap_20 (by decide) ?_
  refine lv_iload_n hx hb dX0_trap_21 rfl (lv_at hl 1 rfl) ?_
  refine va_iast (D := (dC, dI)) hx hb hK hP hD hS 3 0 rfl rfl (jin (by decide)) dX0_trap_22 (fun H locs hP hD hS => ?_)
  have hP : va_P (dC, dI) vwCl (gW cI h0 qme0 qre1 qco2 (st.1, st.2.1, upd (upd st.2.2.1 (3 : Int32).toNatClampNeg (st.2.2.2.1 &&& (hBit (3 : Int32).toNatClampNeg))) (4 : Int32).toNatClampNeg p1, st.2.2.2.1, st.2.2.2.2.1, st.2.2.2.2.2)) H := hP
  have hD : va_D (gA h0 qme0 qre1 qco2 s.heap.size) (gW cI h0 qme0 qre1 qco2 (st.1, st.2.1, upd (upd st.2.2.1 (3 : Int32).toNatClampNeg (st.2.2.2.1 &&& (hBit (3 : Int32).toNatClampNeg))) (4 : Int32).toNatClampNeg p1, st.2.2.2.1, st.2.2.2.2.1, st.2.2.2.2.2)) := hD
  refine lv_aload_n hx hb dX0_trap_23 rfl (lv_at hl 0 rfl) ?_
  refine va_get (D := (dC, dI)) (ci := 0) (v := .ref qco2) (C := "PagedHart") (T := TX0) (N := 6) hx hb hts mU0 hown hK hP 0 rfl rfl 2 (by decide) (hts _ mF_0_17) (fun _ h9 => h9) rfl dX0_trap_24 ?_
  refine lv_iconst (v := 5) hx hb dX0_trap_27 (by decide) ?_
  refine lv_iload_n hx hb dX0_trap_28 rfl (lv_at hl 2 rfl) ?_
  refine va_iast (D := (dC, dI)) hx hb hK hP hD hS 3 0 rfl rfl (jin (by decide)) dX0_trap_29 (fun H locs hP hD hS => ?_)
  have hP : va_P (dC, dI) vwCl (gW cI h0 qme0 qre1 qco2 (st.1, st.2.1, upd (upd (upd st.2.2.1 (3 : Int32).toNatClampNeg (st.2.2.2.1 &&& (hBit (3 : Int32).toNatClampNeg))) (4 : Int32).toNatClampNeg p1) (5 : Int32).toNatClampNeg p2, st.2.2.2.1, st.2.2.2.2.1, st.2.2.2.2.2)) H := hP
  have hD : va_D (gA h0 qme0 qre1 qco2 s.heap.size) (gW cI h0 qme0 qre1 qco2 (st.1, st.2.1, upd (upd (upd st.2.2.1 (3 : Int32).toNatClampNeg (st.2.2.2.1 &&& (hBit (3 : Int32).toNatClampNeg))) (4 : Int32).toNatClampNeg p1) (5 : Int32).toNatClampNeg p2, st.2.2.2.1, st.2.2.2.2.1, st.2.2.2.2.2)) := hD
  refine lv_aload_n hx hb dX0_trap_30 rfl (lv_at hl 0 rfl) ?_
  refine va_get (D := (dC, dI)) (ci := 0) (v := .ref qco2) (C := "PagedHart") (T := TX0) (N := 6) hx hb hts mU0 hown hK hP 0 rfl rfl 2 (by decide) (hts _ mF_0_17) (fun _ h9 => h9) rfl dX0_trap_31 ?_
  refine lv_iconst (v := 0) hx hb dX0_trap_34 (by decide) ?_
  refine lv_aload_n hx hb dX0_trap_35 rfl (lv_at hl 0 rfl) ?_
  refine va_get (D := (dC, dI)) (ci := 0) (v := .ref qco2) (C := "PagedHart") (T := TX0) (N := 6) hx hb hts mU0 hown hK hP 0 rfl rfl 2 (by decide) (hts _ mF_0_17) (fun _ h9 => h9) rfl dX0_trap_36 ?_
  refine lv_iconst (v := 0) hx hb dX0_trap_39 (by decide) ?_
  refine va_iald (D := (dC, dI)) hx hb hK hP 3 0 rfl rfl (jin (by decide)) dX0_trap_40 ?_
  refine lv_topi (fun x1 ex1 => ?_)
  refine lv_ldc (v := 262144) hx hb hown (hts _ mC_0_72) dX0_trap_41 ?_
  refine lv_iand hx hb dX0_trap_43 ?_
  refine lv_aload_n hx hb dX0_trap_44 rfl (lv_at hl 0 rfl) ?_
  refine va_get (D := (dC, dI)) (ci := 0) (v := .int st.2.2.2.2.1) (C := "PagedHart") (T := TX0) (N := 6) hx hb hts mU0 hown hK hP 0 rfl rfl 4 (by decide) (hts _ mF_0_24) (fun _ h9 => h9) rfl dX0_trap_45 ?_
  refine lv_bipush (v := 8) hx hb dX0_trap_48 (by decide) ?_
  refine lv_ishl hx hb dX0_trap_50 ?_
  refine lv_ior hx hb dX0_trap_51 ?_
  refine va_iast (D := (dC, dI)) hx hb hK hP hD hS 3 0 rfl rfl (jin (by decide)) dX0_trap_52 (fun H locs hP hD hS => ?_)
  have hP : va_P (dC, dI) vwCl (gW cI h0 qme0 qre1 qco2 (st.1, st.2.1, upd (upd (upd (upd st.2.2.1 (3 : Int32).toNatClampNeg (st.2.2.2.1 &&& (hBit (3 : Int32).toNatClampNeg))) (4 : Int32).toNatClampNeg p1) (5 : Int32).toNatClampNeg p2) (0 : Int32).toNatClampNeg ((x1 &&& (262144 : Int32)) ||| (st.2.2.2.2.1 <<< ((8 : Int32) &&& 31))), st.2.2.2.1, st.2.2.2.2.1, st.2.2.2.2.2)) H := hP
  have hD : va_D (gA h0 qme0 qre1 qco2 s.heap.size) (gW cI h0 qme0 qre1 qco2 (st.1, st.2.1, upd (upd (upd (upd st.2.2.1 (3 : Int32).toNatClampNeg (st.2.2.2.1 &&& (hBit (3 : Int32).toNatClampNeg))) (4 : Int32).toNatClampNeg p1) (5 : Int32).toNatClampNeg p2) (0 : Int32).toNatClampNeg ((x1 &&& (262144 : Int32)) ||| (st.2.2.2.2.1 <<< ((8 : Int32) &&& 31))), st.2.2.2.1, st.2.2.2.2.1, st.2.2.2.2.2)) := hD
  refine lv_aload_n hx hb dX0_trap_53 rfl (lv_at hl 0 rfl) ?_
  refine lv_iconst (v := 1) hx hb dX0_trap_54 (by decide) ?_
  refine va_put (D := (dC, dI)) (ci := 0) (v := .int 1) (ty := .int) (C := "PagedHart") (T := TX0) (N := 6) hx hb hts mU0 tyX0 tyX0_ok nmX0 hown hK hP hD hS 0 rfl rfl 4 (by decide) (hts _ mF_0_24) (fun _ h9 => h9) rfl (by decide +kernel) rfl rfl (Nat.le_of_ble_eq_true rfl) dX0_trap_55 (fun H locs hP hD hS => ?_)
  have hP : va_P (dC, dI) vwCl (gW cI h0 qme0 qre1 qco2 (st.1, st.2.1, upd (upd (upd (upd st.2.2.1 (3 : Int32).toNatClampNeg (st.2.2.2.1 &&& (hBit (3 : Int32).toNatClampNeg))) (4 : Int32).toNatClampNeg p1) (5 : Int32).toNatClampNeg p2) (0 : Int32).toNatClampNeg ((x1 &&& (262144 : Int32)) ||| (st.2.2.2.2.1 <<< ((8 : Int32) &&& 31))), st.2.2.2.1, (1 : Int32), st.2.2.2.2.2)) H := hP
  have hD : va_D (gA h0 qme0 qre1 qco2 s.heap.size) (gW cI h0 qme0 qre1 qco2 (st.1, st.2.1, upd (upd (upd (upd st.2.2.1 (3 : Int32).toNatClampNeg (st.2.2.2.1 &&& (hBit (3 : Int32).toNatClampNeg))) (4 : Int32).toNatClampNeg p1) (5 : Int32).toNatClampNeg p2) (0 : Int32).toNatClampNeg ((x1 &&& (262144 : Int32)) ||| (st.2.2.2.2.1 <<< ((8 : Int32) &&& 31))), st.2.2.2.1, (1 : Int32), st.2.2.2.2.2)) := hD
  refine lv_aload_n hx hb dX0_trap_58 rfl (lv_at hl 0 rfl) ?_
  refine lv_aload_n hx hb dX0_trap_59 rfl (lv_at hl 0 rfl) ?_
  refine va_get (D := (dC, dI)) (ci := 0) (v := .ref qco2) (C := "PagedHart") (T := TX0) (N := 6) hx hb hts mU0 hown hK hP 0 rfl rfl 2 (by decide) (hts _ mF_0_17) (fun _ h9 => h9) rfl dX0_trap_60 ?_
  refine lv_iconst (v := 1) hx hb dX0_trap_63 (by decide) ?_
  refine va_iald (D := (dC, dI)) hx hb hK hP 3 0 rfl rfl (jin (by decide)) dX0_trap_64 ?_
  refine lv_topi (fun x2 ex2 => ?_)
  refine va_put (D := (dC, dI)) (ci := 0) (v := .int x2) (ty := .int) (C := "PagedHart") (T := TX0) (N := 6) hx hb hts mU0 tyX0 tyX0_ok nmX0 hown hK hP hD hS 0 rfl rfl 3 (by decide) (hts _ mF_0_20) (fun _ h9 => h9) rfl (by decide +kernel) rfl rfl (Nat.le_of_ble_eq_true rfl) dX0_trap_65 (fun H locs hP hD hS => ?_)
  have hP : va_P (dC, dI) vwCl (gW cI h0 qme0 qre1 qco2 (st.1, st.2.1, upd (upd (upd (upd st.2.2.1 (3 : Int32).toNatClampNeg (st.2.2.2.1 &&& (hBit (3 : Int32).toNatClampNeg))) (4 : Int32).toNatClampNeg p1) (5 : Int32).toNatClampNeg p2) (0 : Int32).toNatClampNeg ((x1 &&& (262144 : Int32)) ||| (st.2.2.2.2.1 <<< ((8 : Int32) &&& 31))), x2, (1 : Int32), st.2.2.2.2.2)) H := hP
  have hD : va_D (gA h0 qme0 qre1 qco2 s.heap.size) (gW cI h0 qme0 qre1 qco2 (st.1, st.2.1, upd (upd (upd (upd st.2.2.1 (3 : Int32).toNatClampNeg (st.2.2.2.1 &&& (hBit (3 : Int32).toNatClampNeg))) (4 : Int32).toNatClampNeg p1) (5 : Int32).toNatClampNeg p2) (0 : Int32).toNatClampNeg ((x1 &&& (262144 : Int32)) ||| (st.2.2.2.2.1 <<< ((8 : Int32) &&& 31))), x2, (1 : Int32), st.2.2.2.2.2)) := hD
  refine lv_iconst (v := 0) hx hb dX0_trap_68 (by decide) ?_
  exact gZret (v := 0) (u := (st.1, st.2.1, upd (upd (upd (upd st.2.2.1 (3 : Int32).toNatClampNeg (st.2.2.2.1 &&& (hBit (3 : Int32).toNatClampNeg))) (4 : Int32).toNatClampNeg p1) (5 : Int32).toNatClampNeg p2) (0 : Int32).toNatClampNeg ((x1 &&& (262144 : Int32)) ||| (st.2.2.2.2.1 <<< ((8 : Int32) &&& 31))), x2, (1 : Int32), st.2.2.2.2.2)) hx hb hr hlocks rfl (by subst ex2 ex1; exact (rfl).symm) hK hP hD hS dX0_trap_69
theorem hb_trap (st : HS) (p1 : Int32) (p2 : Int32) : (h_trap st p1 p2).1 = 0 ∨ (h_trap st p1 p2).1 = 1 := by
  unfold h_trap
  try dsimp only
  (repeat' split) <;> first | exact Or.inl rfl | exact Or.inr rfl

def h_refuse (st : HS) (p1 : Int32) : Int32 × HS :=
  let z1 : Int32 × HS := h_trap st (2 : Int32) p1
  z1
set_option maxHeartbeats 4000000 in
set_option maxRecDepth 100000 in
theorem ch_refuse (l : Launch) (dC : Nat → ClassId) (dI : Nat → Nat → Nat) (cI h0 qme0 qre1 qco2 tN tB : Nat) (sz : Nat) (st : HS) (p1 : Int32)  : Met l yX0_refuse (.code yX0_refuse cX0_refuse 2 (some .boolean) :: gBIG) ({ frames := 1, cells := 0, slots := 0, locals := 22 }) (va_Pc [.ref h0, .int p1] (gPre dC dI cI h0 qme0 qre1 qco2 tN tB sz st)) (va_Qi (fun r v => (r, v) = h_refuse st p1) (gB dC dI cI h0 qme0 qre1 qco2 (gA h0 qme0 qre1 qco2 sz)) (gA h0 qme0 qre1 qco2 sz)) 0 0 (gA h0 qme0 qre1 qco2 sz) := by
  refine Met.ofW (cc := cX0_refuse) (maxL := 2) (ret := (some .boolean)) (by decide) rfl ?_
  intro p e s m args below meth c s₁ B hml hv
  obtain ⟨rfl, hsz, hP, hK, hD0, hZ⟩ := hv
  have hx := B.exec
  have hb := B.bytes
  have hr := B.returns
  have hts : ∀ w ∈ gBIG, w.before _ s = true := fun w h => atoms_spec (ws := (.code yX0_refuse cX0_refuse 2 (some .boolean) :: gBIG)) B.pre w (List.mem_cons_of_mem _ h)
  have hown : s.vm.findClass "PagedHart" = some m.cls := findClass_of_methodNamed B.named
  have hlocks := B.notSynchronized
  subst hsz
  have hD : va_D (gA h0 qme0 qre1 qco2 s.heap.size) (gW cI h0 qme0 qre1 qco2 st) := gD hD0
  have hS : va_S (gA h0 qme0 qre1 qco2 s.heap.size) s.heap s.heap [] := va_S.rf
  have hP : va_P (dC, dI) vwCl (gW cI h0 qme0 qre1 qco2 st) s.heap := hP
  have hl := lv_entry ([.ref h0, .int p1]) (n := 2) (Nat.le_of_ble_eq_true rfl)
  rw [lg_entry_eq]
  generalize (lg_sl ([.ref h0, .int p1]) ++ List.replicate (2 - (lg_sl ([.ref h0, .int p1])).length) Slot.unset).toArray = ls at hl ⊢
  refine jgo (P := fun H locs => va_P (dC, dI) vwCl (gW cI h0 qme0 qre1 qco2 st) H ∧ va_S (gA h0 qme0 qre1 qco2 s.heap.size) s.heap H locs) ⟨hP, hS⟩ (fun H locs hPS => ?_)
  obtain ⟨hP, hS⟩ := hPS
  have hl : lv_has ls 2 [(0, .ref h0), (1, .int p1)] := hl
  refine lv_aload_n hx hb dX0_refuse_0 rfl (lv_at hl 0 rfl) ?_
  refine lv_iconst (v := 2) hx hb dX0_refuse_1 (by decide) ?_
  refine lv_iload_n hx hb dX0_refuse_2 rfl (lv_at hl 1 rfl) ?_
  refine gMi (As := [.int 2, .int p1]) (rest := []) (f := h_trap st (2 : Int32) p1) ⟨hx, hb, hml, hown, hts⟩ (ch_trap l dC dI cI h0 qme0 qre1 qco2 tN tB H.size st (2 : Int32) p1) (cwV 2 hts (gV mL_0_96 mI_0_trap mX_0_trap mN_0 mB_0_trap) rfl rfl rfl (by decide +kernel) ⟨Nat.le_of_ble_eq_true rfl, Nat.le_of_ble_eq_true rfl⟩) hK hP hD hS hZ rfl hl.1 rfl (Nat.le_of_ble_eq_true rfl) dX0_refuse_3 ⟨Nat.zero_le _, Nat.zero_le _⟩ (fun z1 ez1 H locs hP hD hS => ?_)
  have hP : va_P (dC, dI) vwCl (gW cI h0 qme0 qre1 qco2 z1.2) H := hP
  have hD : va_D (gA h0 qme0 qre1 qco2 s.heap.size) (gW cI h0 qme0 qre1 qco2 z1.2) := hD
  exact gZret (v := z1.1) (u := z1.2) hx hb hr hlocks (jnb (by rw [ez1]; exact hb_trap st (2 : Int32) p1)) (by subst ez1; exact (rfl).symm) hK hP hD hS dX0_refuse_6
theorem hb_refuse (st : HS) (p1 : Int32) : (h_refuse st p1).1 = 0 ∨ (h_refuse st p1).1 = 1 := by
  unfold h_refuse
  try dsimp only
  (repeat' split) <;> first | with_reducible exact hb_trap _ _ _ | exact Or.inl rfl | exact Or.inr rfl

def h_goOn (st : HS)  : Int32 × HS :=
  ((1 : Int32), (st.1, st.2.1, st.2.2.1, st.2.2.2.1 + (4 : Int32), st.2.2.2.2.1, st.2.2.2.2.2))
set_option maxHeartbeats 4000000 in
set_option maxRecDepth 100000 in
theorem ch_goOn (l : Launch) (dC : Nat → ClassId) (dI : Nat → Nat → Nat) (cI h0 qme0 qre1 qco2 tN tB : Nat) (sz : Nat) (st : HS)   : Met l yX0_goOn (.code yX0_goOn cX0_goOn 1 (some .boolean) :: gBIG) ({ frames := 0, cells := 0, slots := 0, locals := 0 }) (va_Pc [.ref h0] (gPre dC dI cI h0 qme0 qre1 qco2 tN tB sz st)) (va_Qi (fun r v => (r, v) = h_goOn st) (gB dC dI cI h0 qme0 qre1 qco2 (gA h0 qme0 qre1 qco2 sz)) (gA h0 qme0 qre1 qco2 sz)) 0 0 (gA h0 qme0 qre1 qco2 sz) := by
  refine Met.ofW (cc := cX0_goOn) (maxL := 1) (ret := (some .boolean)) (by decide) rfl ?_
  intro p e s m args below meth c s₁ B hml hv
  obtain ⟨rfl, hsz, hP, hK, hD0, hZ⟩ := hv
  have hx := B.exec
  have hb := B.bytes
  have hr := B.returns
  have hts : ∀ w ∈ gBIG, w.before _ s = true := fun w h => atoms_spec (ws := (.code yX0_goOn cX0_goOn 1 (some .boolean) :: gBIG)) B.pre w (List.mem_cons_of_mem _ h)
  have hown : s.vm.findClass "PagedHart" = some m.cls := findClass_of_methodNamed B.named
  have hlocks := B.notSynchronized
  subst hsz
  have hD : va_D (gA h0 qme0 qre1 qco2 s.heap.size) (gW cI h0 qme0 qre1 qco2 st) := gD hD0
  have hS : va_S (gA h0 qme0 qre1 qco2 s.heap.size) s.heap s.heap [] := va_S.rf
  have hP : va_P (dC, dI) vwCl (gW cI h0 qme0 qre1 qco2 st) s.heap := hP
  have hl := lv_entry ([.ref h0]) (n := 1) (Nat.le_of_ble_eq_true rfl)
  rw [lg_entry_eq]
  generalize (lg_sl ([.ref h0]) ++ List.replicate (1 - (lg_sl ([.ref h0])).length) Slot.unset).toArray = ls at hl ⊢
  refine jgo (P := fun H locs => va_P (dC, dI) vwCl (gW cI h0 qme0 qre1 qco2 st) H ∧ va_S (gA h0 qme0 qre1 qco2 s.heap.size) s.heap H locs) ⟨hP, hS⟩ (fun H locs hPS => ?_)
  obtain ⟨hP, hS⟩ := hPS
  have hl : lv_has ls 1 [(0, .ref h0)] := hl
  refine lv_aload_n hx hb dX0_goOn_0 rfl (lv_at hl 0 rfl) ?_
  refine lv_dup hx hb dX0_goOn_1 rfl ?_
  refine va_get (D := (dC, dI)) (ci := 0) (v := .int st.2.2.2.1) (C := "PagedHart") (T := TX0) (N := 6) hx hb hts mU0 hown hK hP 0 rfl rfl 3 (by decide) (hts _ mF_0_20) (fun _ h9 => h9) rfl dX0_goOn_2 ?_
  refine lv_iconst (v := 4) hx hb dX0_goOn_5 (by decide) ?_
  refine lv_iadd hx hb dX0_goOn_6 ?_
  refine va_put (D := (dC, dI)) (ci := 0) (v := .int (st.2.2.2.1 + (4 : Int32))) (ty := .int) (C := "PagedHart") (T := TX0) (N := 6) hx hb hts mU0 tyX0 tyX0_ok nmX0 hown hK hP hD hS 0 rfl rfl 3 (by decide) (hts _ mF_0_20) (fun _ h9 => h9) rfl (by decide +kernel) rfl rfl (Nat.le_of_ble_eq_true rfl) dX0_goOn_7 (fun H locs hP hD hS => ?_)
  have hP : va_P (dC, dI) vwCl (gW cI h0 qme0 qre1 qco2 (st.1, st.2.1, st.2.2.1, st.2.2.2.1 + (4 : Int32), st.2.2.2.2.1, st.2.2.2.2.2)) H := hP
  have hD : va_D (gA h0 qme0 qre1 qco2 s.heap.size) (gW cI h0 qme0 qre1 qco2 (st.1, st.2.1, st.2.2.1, st.2.2.2.1 + (4 : Int32), st.2.2.2.2.1, st.2.2.2.2.2)) := hD
  refine lv_iconst (v := 1) hx hb dX0_goOn_10 (by decide) ?_
  exact gZret (v := 1) (u := (st.1, st.2.1, st.2.2.1, st.2.2.2.1 + (4 : Int32), st.2.2.2.2.1, st.2.2.2.2.2)) hx hb hr hlocks rfl (by exact (rfl).symm) hK hP hD hS dX0_goOn_11
theorem hb_goOn (st : HS)  : (h_goOn st ).1 = 0 ∨ (h_goOn st ).1 = 1 := by
  unfold h_goOn
  try dsimp only
  (repeat' split) <;> first | with_reducible exact hb_trap _ _ _ | with_reducible exact hb_refuse _ _ | exact Or.inl rfl | exact Or.inr rfl

def h_writeD (st : HS) (p1 : Int32) (p2 : Int32) : HS :=
  let x1 : Int32 := (jush p1 (7 : Int32)) &&& (31 : Int32)
  if x1 = 0 then
    st
  else
    (st.1, upd st.2.1 x1.toNatClampNeg p2, st.2.2.1, st.2.2.2.1, st.2.2.2.2.1, st.2.2.2.2.2)
set_option maxHeartbeats 4000000 in
set_option maxRecDepth 100000 in
theorem ch_writeD (l : Launch) (dC : Nat → ClassId) (dI : Nat → Nat → Nat) (cI h0 qme0 qre1 qco2 tN tB : Nat) (sz : Nat) (st : HS) (p1 : Int32) (p2 : Int32)  : Met l yX0_writeD (.code yX0_writeD cX0_writeD 4 none :: gBIG) ({ frames := 0, cells := 0, slots := 0, locals := 0 }) (va_Pc [.ref h0, .int p1, .int p2] (gPre dC dI cI h0 qme0 qre1 qco2 tN tB sz st)) (va_Qv (fun v => v = h_writeD st p1 p2) (gB dC dI cI h0 qme0 qre1 qco2 (gA h0 qme0 qre1 qco2 sz)) (gA h0 qme0 qre1 qco2 sz)) 0 0 (gA h0 qme0 qre1 qco2 sz) := by
  refine Met.ofW (cc := cX0_writeD) (maxL := 4) (ret := none) (by decide) rfl ?_
  intro p e s m args below meth c s₁ B hml hv
  obtain ⟨rfl, hsz, hP, hK, hD0, hZ⟩ := hv
  have hx := B.exec
  have hb := B.bytes
  have hr := B.returns
  have hts : ∀ w ∈ gBIG, w.before _ s = true := fun w h => atoms_spec (ws := (.code yX0_writeD cX0_writeD 4 none :: gBIG)) B.pre w (List.mem_cons_of_mem _ h)
  have hown : s.vm.findClass "PagedHart" = some m.cls := findClass_of_methodNamed B.named
  have hlocks := B.notSynchronized
  subst hsz
  have hD : va_D (gA h0 qme0 qre1 qco2 s.heap.size) (gW cI h0 qme0 qre1 qco2 st) := gD hD0
  have hS : va_S (gA h0 qme0 qre1 qco2 s.heap.size) s.heap s.heap [] := va_S.rf
  have hP : va_P (dC, dI) vwCl (gW cI h0 qme0 qre1 qco2 st) s.heap := hP
  have hl := lv_entry ([.ref h0, .int p1, .int p2]) (n := 4) (Nat.le_of_ble_eq_true rfl)
  rw [lg_entry_eq]
  generalize (lg_sl ([.ref h0, .int p1, .int p2]) ++ List.replicate (4 - (lg_sl ([.ref h0, .int p1, .int p2])).length) Slot.unset).toArray = ls at hl ⊢
  refine jgo (P := fun H locs => va_P (dC, dI) vwCl (gW cI h0 qme0 qre1 qco2 st) H ∧ va_S (gA h0 qme0 qre1 qco2 s.heap.size) s.heap H locs) ⟨hP, hS⟩ (fun H locs hPS => ?_)
  obtain ⟨hP, hS⟩ := hPS
  have hl : lv_has ls 4 [(0, .ref h0), (1, .int p1), (2, .int p2)] := hl
  refine lv_iload_n hx hb dX0_writeD_0 rfl (lv_at hl 1 rfl) ?_
  refine lv_bipush (v := 7) hx hb dX0_writeD_1 (by decide) ?_
  refine lv_iushr (v := jush p1 (7 : Int32)) hx hb dX0_writeD_3 rfl ?_
  refine lv_bipush (v := 31) hx hb dX0_writeD_4 (by decide) ?_
  refine lv_iand hx hb dX0_writeD_6 ?_
  refine lv_topi (fun x1 ex1 => ?_)
  refine lv_istore_n (lv' := [(3, .int x1), (0, .ref h0), (1, .int p1), (2, .int p2)]) hx hb dX0_writeD_7 rfl hl (by decide) rfl (fun ls hl => ?_)
  refine lv_iload_n hx hb dX0_writeD_8 rfl (lv_at hl 0 rfl) ?_
  refine lv_if_eq (tgt := 19) hx hb dX0_writeD_9 (by decide) (fun c2 => ?_) (fun c2 => ?_)
  · exact gVret (u := st) hx hb hr hlocks (by subst ex1; exact (((if_pos c2).trans rfl)).symm) hK hP hD hS dX0_writeD_19
  · refine lv_aload_n hx hb dX0_writeD_12 rfl (lv_at hl 1 rfl) ?_
    refine va_get (D := (dC, dI)) (ci := 0) (v := .ref qre1) (C := "PagedHart") (T := TX0) (N := 6) hx hb hts mU0 hown hK hP 0 rfl rfl 1 (by decide) (hts _ mF_0_14) (fun _ h9 => h9) rfl dX0_writeD_13 ?_
    refine lv_iload_n hx hb dX0_writeD_16 rfl (lv_at hl 0 rfl) ?_
    refine lv_iload_n hx hb dX0_writeD_17 rfl (lv_at hl 3 rfl) ?_
    refine va_iast (D := (dC, dI)) hx hb hK hP hD hS 2 0 rfl rfl (by rw [ex1]; exact pk_andIn _ 5 rfl (by decide)) dX0_writeD_18 (fun H locs hP hD hS => ?_)
    have hP : va_P (dC, dI) vwCl (gW cI h0 qme0 qre1 qco2 (st.1, upd st.2.1 x1.toNatClampNeg p2, st.2.2.1, st.2.2.2.1, st.2.2.2.2.1, st.2.2.2.2.2)) H := hP
    have hD : va_D (gA h0 qme0 qre1 qco2 s.heap.size) (gW cI h0 qme0 qre1 qco2 (st.1, upd st.2.1 x1.toNatClampNeg p2, st.2.2.1, st.2.2.2.1, st.2.2.2.2.1, st.2.2.2.2.2)) := hD
    exact gVret (u := (st.1, upd st.2.1 x1.toNatClampNeg p2, st.2.2.1, st.2.2.2.1, st.2.2.2.2.1, st.2.2.2.2.2)) hx hb hr hlocks (by subst ex1; exact (((if_neg c2).trans rfl)).symm) hK hP hD hS dX0_writeD_19

def h_goOnWith (st : HS) (p1 : Int32) (p2 : Int32) : Int32 × HS :=
  let z1 : HS := h_writeD st p1 p2
  let z2 : Int32 × HS := h_goOn z1
  z2
set_option maxHeartbeats 4000000 in
set_option maxRecDepth 100000 in
theorem ch_goOnWith (l : Launch) (dC : Nat → ClassId) (dI : Nat → Nat → Nat) (cI h0 qme0 qre1 qco2 tN tB : Nat) (sz : Nat) (st : HS) (p1 : Int32) (p2 : Int32)  : Met l yX0_goOnWith (.code yX0_goOnWith cX0_goOnWith 3 (some .boolean) :: gBIG) ({ frames := 1, cells := 0, slots := 0, locals := 23 }) (va_Pc [.ref h0, .int p1, .int p2] (gPre dC dI cI h0 qme0 qre1 qco2 tN tB sz st)) (va_Qi (fun r v => (r, v) = h_goOnWith st p1 p2) (gB dC dI cI h0 qme0 qre1 qco2 (gA h0 qme0 qre1 qco2 sz)) (gA h0 qme0 qre1 qco2 sz)) 0 0 (gA h0 qme0 qre1 qco2 sz) := by
  refine Met.ofW (cc := cX0_goOnWith) (maxL := 3) (ret := (some .boolean)) (by decide) rfl ?_
  intro p e s m args below meth c s₁ B hml hv
  obtain ⟨rfl, hsz, hP, hK, hD0, hZ⟩ := hv
  have hx := B.exec
  have hb := B.bytes
  have hr := B.returns
  have hts : ∀ w ∈ gBIG, w.before _ s = true := fun w h => atoms_spec (ws := (.code yX0_goOnWith cX0_goOnWith 3 (some .boolean) :: gBIG)) B.pre w (List.mem_cons_of_mem _ h)
  have hown : s.vm.findClass "PagedHart" = some m.cls := findClass_of_methodNamed B.named
  have hlocks := B.notSynchronized
  subst hsz
  have hD : va_D (gA h0 qme0 qre1 qco2 s.heap.size) (gW cI h0 qme0 qre1 qco2 st) := gD hD0
  have hS : va_S (gA h0 qme0 qre1 qco2 s.heap.size) s.heap s.heap [] := va_S.rf
  have hP : va_P (dC, dI) vwCl (gW cI h0 qme0 qre1 qco2 st) s.heap := hP
  have hl := lv_entry ([.ref h0, .int p1, .int p2]) (n := 3) (Nat.le_of_ble_eq_true rfl)
  rw [lg_entry_eq]
  generalize (lg_sl ([.ref h0, .int p1, .int p2]) ++ List.replicate (3 - (lg_sl ([.ref h0, .int p1, .int p2])).length) Slot.unset).toArray = ls at hl ⊢
  refine jgo (P := fun H locs => va_P (dC, dI) vwCl (gW cI h0 qme0 qre1 qco2 st) H ∧ va_S (gA h0 qme0 qre1 qco2 s.heap.size) s.heap H locs) ⟨hP, hS⟩ (fun H locs hPS => ?_)
  obtain ⟨hP, hS⟩ := hPS
  have hl : lv_has ls 3 [(0, .ref h0), (1, .int p1), (2, .int p2)] := hl
  refine lv_aload_n hx hb dX0_goOnWith_0 rfl (lv_at hl 0 rfl) ?_
  refine lv_iload_n hx hb dX0_goOnWith_1 rfl (lv_at hl 1 rfl) ?_
  refine lv_iload_n hx hb dX0_goOnWith_2 rfl (lv_at hl 2 rfl) ?_
  refine gMv (As := [.int p1, .int p2]) (rest := []) (f := h_writeD st p1 p2) ⟨hx, hb, hml, hown, hts⟩ (ch_writeD l dC dI cI h0 qme0 qre1 qco2 tN tB H.size st p1 p2) (cwV 2 hts (gV mL_0_111 mI_0_writeD mX_0_writeD mN_0 mB_0_writeD) rfl rfl rfl (by decide +kernel) ⟨Nat.le_of_ble_eq_true rfl, Nat.le_of_ble_eq_true rfl⟩) hK hP hD hS hZ rfl hl.1 rfl (Nat.le_of_ble_eq_true rfl) dX0_goOnWith_3 ⟨Nat.zero_le _, Nat.zero_le _⟩ (fun z1 ez1 H locs hP hD hS => ?_)
  have hP : va_P (dC, dI) vwCl (gW cI h0 qme0 qre1 qco2 z1) H := hP
  have hD : va_D (gA h0 qme0 qre1 qco2 s.heap.size) (gW cI h0 qme0 qre1 qco2 z1) := hD
  refine lv_aload_n hx hb dX0_goOnWith_6 rfl (lv_at hl 0 rfl) ?_
  refine gMi (As := []) (rest := []) (f := h_goOn z1) ⟨hx, hb, hml, hown, hts⟩ (ch_goOn l dC dI cI h0 qme0 qre1 qco2 tN tB H.size z1 ) (cwV 0 hts (gV mL_0_115 mI_0_goOn mX_0_goOn mN_0 mB_0_goOn) rfl rfl rfl (by decide +kernel) ⟨Nat.le_of_ble_eq_true rfl, Nat.le_of_ble_eq_true rfl⟩) hK hP hD hS hZ rfl hl.1 rfl (Nat.le_of_ble_eq_true rfl) dX0_goOnWith_7 ⟨Nat.zero_le _, Nat.zero_le _⟩ (fun z2 ez2 H locs hP hD hS => ?_)
  have hP : va_P (dC, dI) vwCl (gW cI h0 qme0 qre1 qco2 z2.2) H := hP
  have hD : va_D (gA h0 qme0 qre1 qco2 s.heap.size) (gW cI h0 qme0 qre1 qco2 z2.2) := hD
  exact gZret (v := z2.1) (u := z2.2) hx hb hr hlocks (jnb (by rw [ez2]; exact hb_goOn z1)) (by subst ez2 ez1; exact (rfl).symm) hK hP hD hS dX0_goOnWith_10
theorem hb_goOnWith (st : HS) (p1 : Int32) (p2 : Int32) : (h_goOnWith st p1 p2).1 = 0 ∨ (h_goOnWith st p1 p2).1 = 1 := by
  unfold h_goOnWith
  try dsimp only
  (repeat' split) <;> first | with_reducible exact hb_trap _ _ _ | with_reducible exact hb_refuse _ _ | with_reducible exact hb_goOn _ | exact Or.inl rfl | exact Or.inr rfl

def h_jump (st : HS) (p1 : Int32) (p2 : Int32) : Int32 × HS :=
  if (p2 &&& (3 : Int32)) = 0 then
    let z2 : HS := h_writeD st p1 (st.2.2.2.1 + (4 : Int32))
    ((1 : Int32), (z2.1, z2.2.1, z2.2.2.1, p2, z2.2.2.2.2.1, z2.2.2.2.2.2))
  else
    let z3 : Int32 × HS := h_trap st (0 : Int32) p2
    z3
set_option maxHeartbeats 4000000 in
set_option maxRecDepth 100000 in
theorem ch_jump (l : Launch) (dC : Nat → ClassId) (dI : Nat → Nat → Nat) (cI h0 qme0 qre1 qco2 tN tB : Nat) (sz : Nat) (st : HS) (p1 : Int32) (p2 : Int32)  : Met l yX0_jump (.code yX0_jump cX0_jump 3 (some .boolean) :: gBIG) ({ frames := 1, cells := 0, slots := 0, locals := 23 }) (va_Pc [.ref h0, .int p1, .int p2] (gPre dC dI cI h0 qme0 qre1 qco2 tN tB sz st)) (va_Qi (fun r v => (r, v) = h_jump st p1 p2) (gB dC dI cI h0 qme0 qre1 qco2 (gA h0 qme0 qre1 qco2 sz)) (gA h0 qme0 qre1 qco2 sz)) 0 0 (gA h0 qme0 qre1 qco2 sz) := by
  refine Met.ofW (cc := cX0_jump) (maxL := 3) (ret := (some .boolean)) (by decide) rfl ?_
  intro p e s m args below meth c s₁ B hml hv
  obtain ⟨rfl, hsz, hP, hK, hD0, hZ⟩ := hv
  have hx := B.exec
  have hb := B.bytes
  have hr := B.returns
  have hts : ∀ w ∈ gBIG, w.before _ s = true := fun w h => atoms_spec (ws := (.code yX0_jump cX0_jump 3 (some .boolean) :: gBIG)) B.pre w (List.mem_cons_of_mem _ h)
  have hown : s.vm.findClass "PagedHart" = some m.cls := findClass_of_methodNamed B.named
  have hlocks := B.notSynchronized
  subst hsz
  have hD : va_D (gA h0 qme0 qre1 qco2 s.heap.size) (gW cI h0 qme0 qre1 qco2 st) := gD hD0
  have hS : va_S (gA h0 qme0 qre1 qco2 s.heap.size) s.heap s.heap [] := va_S.rf
  have hP : va_P (dC, dI) vwCl (gW cI h0 qme0 qre1 qco2 st) s.heap := hP
  have hl := lv_entry ([.ref h0, .int p1, .int p2]) (n := 3) (Nat.le_of_ble_eq_true rfl)
  rw [lg_entry_eq]
  generalize (lg_sl ([.ref h0, .int p1, .int p2]) ++ List.replicate (3 - (lg_sl ([.ref h0, .int p1, .int p2])).length) Slot.unset).toArray = ls at hl ⊢
  refine jgo (P := fun H locs => va_P (dC, dI) vwCl (gW cI h0 qme0 qre1 qco2 st) H ∧ va_S (gA h0 qme0 qre1 qco2 s.heap.size) s.heap H locs) ⟨hP, hS⟩ (fun H locs hPS => ?_)
  obtain ⟨hP, hS⟩ := hPS
  have hl : lv_has ls 3 [(0, .ref h0), (1, .int p1), (2, .int p2)] := hl
  refine lv_iload_n hx hb dX0_jump_0 rfl (lv_at hl 2 rfl) ?_
  refine lv_iconst (v := 3) hx hb dX0_jump_1 (by decide) ?_
  refine lv_iand hx hb dX0_jump_2 ?_
  refine lv_if_eq (tgt := 13) hx hb dX0_jump_3 (by decide) (fun c1 => ?_) (fun c1 => ?_)
  · refine lv_aload_n hx hb dX0_jump_13 rfl (lv_at hl 0 rfl) ?_
    refine lv_iload_n hx hb dX0_jump_14 rfl (lv_at hl 1 rfl) ?_
    refine lv_aload_n hx hb dX0_jump_15 rfl (lv_at hl 0 rfl) ?_
    refine va_get (D := (dC, dI)) (ci := 0) (v := .int st.2.2.2.1) (C := "PagedHart") (T := TX0) (N := 6) hx hb hts mU0 hown hK hP 0 rfl rfl 3 (by decide) (hts _ mF_0_20) (fun _ h9 => h9) rfl dX0_jump_16 ?_
    refine lv_iconst (v := 4) hx hb dX0_jump_19 (by decide) ?_
    refine lv_iadd hx hb dX0_jump_20 ?_
    refine gMv (As := [.int p1, .int (st.2.2.2.1 + (4 : Int32))]) (rest := []) (f := h_writeD st p1 (st.2.2.2.1 + (4 : Int32))) ⟨hx, hb, hml, hown, hts⟩ (ch_writeD l dC dI cI h0 qme0 qre1 qco2 tN tB H.size st p1 (st.2.2.2.1 + (4 : Int32))) (cwV 2 hts (gV mL_0_111 mI_0_writeD mX_0_writeD mN_0 mB_0_writeD) rfl rfl rfl (by decide +kernel) ⟨Nat.le_of_ble_eq_true rfl, Nat.le_of_ble_eq_true rfl⟩) hK hP hD hS hZ rfl hl.1 rfl (Nat.le_of_ble_eq_true rfl) dX0_jump_21 ⟨Nat.zero_le _, Nat.zero_le _⟩ (fun z2 ez2 H locs hP hD hS => ?_)
    have hP : va_P (dC, dI) vwCl (gW cI h0 qme0 qre1 qco2 z2) H := hP
    have hD : va_D (gA h0 qme0 qre1 qco2 s.heap.size) (gW cI h0 qme0 qre1 qco2 z2) := hD
    refine lv_aload_n hx hb dX0_jump_24 rfl (lv_at hl 0 rfl) ?_
    refine lv_iload_n hx hb dX0_jump_25 rfl (lv_at hl 2 rfl) ?_
    refine va_put (D := (dC, dI)) (ci := 0) (v := .int p2) (ty := .int) (C := "PagedHart") (T := TX0) (N := 6) hx hb hts mU0 tyX0 tyX0_ok nmX0 hown hK hP hD hS 0 rfl rfl 3 (by decide) (hts _ mF_0_20) (fun _ h9 => h9) rfl (by decide +kernel) rfl rfl (Nat.le_of_ble_eq_true rfl) dX0_jump_26 (fun H locs hP hD hS => ?_)
    have hP : va_P (dC, dI) vwCl (gW cI h0 qme0 qre1 qco2 (z2.1, z2.2.1, z2.2.2.1, p2, z2.2.2.2.2.1, z2.2.2.2.2.2)) H := hP
    have hD : va_D (gA h0 qme0 qre1 qco2 s.heap.size) (gW cI h0 qme0 qre1 qco2 (z2.1, z2.2.1, z2.2.2.1, p2, z2.2.2.2.2.1, z2.2.2.2.2.2)) := hD
    refine lv_iconst (v := 1) hx hb dX0_jump_29 (by decide) ?_
    exact gZret (v := 1) (u := (z2.1, z2.2.1, z2.2.2.1, p2, z2.2.2.2.2.1, z2.2.2.2.2.2)) hx hb hr hlocks rfl (by subst ez2; exact (((if_pos c1).trans rfl)).symm) hK hP hD hS dX0_jump_30
  · refine lv_aload_n hx hb dX0_jump_6 rfl (lv_at hl 0 rfl) ?_
    refine lv_iconst (v := 0) hx hb dX0_jump_7 (by decide) ?_
    refine lv_iload_n hx hb dX0_jump_8 rfl (lv_at hl 2 rfl) ?_
    refine gMi (As := [.int 0, .int p2]) (rest := []) (f := h_trap st (0 : Int32) p2) ⟨hx, hb, hml, hown, hts⟩ (ch_trap l dC dI cI h0 qme0 qre1 qco2 tN tB H.size st (0 : Int32) p2) (cwV 2 hts (gV mL_0_96 mI_0_trap mX_0_trap mN_0 mB_0_trap) rfl rfl rfl (by decide +kernel) ⟨Nat.le_of_ble_eq_true rfl, Nat.le_of_ble_eq_true rfl⟩) hK hP hD hS hZ rfl hl.1 rfl (Nat.le_of_ble_eq_true rfl) dX0_jump_9 ⟨Nat.zero_le _, Nat.zero_le _⟩ (fun z3 ez3 H locs hP hD hS => ?_)
    have hP : va_P (dC, dI) vwCl (gW cI h0 qme0 qre1 qco2 z3.2) H := hP
    have hD : va_D (gA h0 qme0 qre1 qco2 s.heap.size) (gW cI h0 qme0 qre1 qco2 z3.2) := hD
    exact gZret (v := z3.1) (u := z3.2) hx hb hr hlocks (jnb (by rw [ez3]; exact hb_trap st (0 : Int32) p2)) (by subst ez3; exact (((if_neg c1).trans rfl)).symm) hK hP hD hS dX0_jump_12
theorem hb_jump (st : HS) (p1 : Int32) (p2 : Int32) : (h_jump st p1 p2).1 = 0 ∨ (h_jump st p1 p2).1 = 1 := by
  unfold h_jump
  try dsimp only
  (repeat' split) <;> first | with_reducible exact hb_trap _ _ _ | with_reducible exact hb_refuse _ _ | with_reducible exact hb_goOn _ | with_reducible exact hb_goOnWith _ _ _ | exact Or.inl rfl | exact Or.inr rfl

def h_branch (st : HS) (p1 : Int32) : Int32 × HS :=
  let x1 : Int32 := h_fOf p1
  if x1 = (2 : Int32) then
    let z3 : Int32 × HS := h_refuse st p1
    z3
  else
    if x1 = (3 : Int32) then
      let z14 : Int32 × HS := h_refuse st p1
      z14
    else
      let x5 : Int32 := h_aOf st p1
      let x6 : Int32 := h_bOf st p1
      let x7 : Int32 := h_isTaken x1 x5 x6
      if x7 = 0 then
        let z13 : Int32 × HS := h_goOn st
        z13
      else
        let x9 : Int32 := h_branchDistance p1
        let x10 : Int32 := st.2.2.2.1 + x9
        if (x10 &&& (3 : Int32)) = 0 then
          ((1 : Int32), (st.1, st.2.1, st.2.2.1, x10, st.2.2.2.2.1, st.2.2.2.2.2))
        else
          let z12 : Int32 × HS := h_trap st (0 : Int32) x10
          z12
set_option maxHeartbeats 4000000 in
set_option maxRecDepth 100000 in
theorem ch_branch (l : Launch) (dC : Nat → ClassId) (dI : Nat → Nat → Nat) (cI h0 qme0 qre1 qco2 tN tB : Nat) (sz : Nat) (st : HS) (p1 : Int32)  : Met l yX0_branch (.code yX0_branch cX0_branch 4 (some .boolean) :: gBIG) ({ frames := 2, cells := 0, slots := 0, locals := 44 }) (va_Pc [.ref h0, .int p1] (gPre dC dI cI h0 qme0 qre1 qco2 tN tB sz st)) (va_Qi (fun r v => (r, v) = h_branch st p1) (gB dC dI cI h0 qme0 qre1 qco2 (gA h0 qme0 qre1 qco2 sz)) (gA h0 qme0 qre1 qco2 sz)) 0 0 (gA h0 qme0 qre1 qco2 sz) := by
  refine Met.ofW (cc := cX0_branch) (maxL := 4) (ret := (some .boolean)) (by decide) rfl ?_
  intro p e s m args below meth c s₁ B hml hv
  obtain ⟨rfl, hsz, hP, hK, hD0, hZ⟩ := hv
  have hx := B.exec
  have hb := B.bytes
  have hr := B.returns
  have hts : ∀ w ∈ gBIG, w.before _ s = true := fun w h => atoms_spec (ws := (.code yX0_branch cX0_branch 4 (some .boolean) :: gBIG)) B.pre w (List.mem_cons_of_mem _ h)
  have hown : s.vm.findClass "PagedHart" = some m.cls := findClass_of_methodNamed B.named
  have hlocks := B.notSynchronized
  subst hsz
  have hD : va_D (gA h0 qme0 qre1 qco2 s.heap.size) (gW cI h0 qme0 qre1 qco2 st) := gD hD0
  have hS : va_S (gA h0 qme0 qre1 qco2 s.heap.size) s.heap s.heap [] := va_S.rf
  have hP : va_P (dC, dI) vwCl (gW cI h0 qme0 qre1 qco2 st) s.heap := hP
  have hl := lv_entry ([.ref h0, .int p1]) (n := 4) (Nat.le_of_ble_eq_true rfl)
  rw [lg_entry_eq]
  generalize (lg_sl ([.ref h0, .int p1]) ++ List.replicate (4 - (lg_sl ([.ref h0, .int p1])).length) Slot.unset).toArray = ls at hl ⊢
  refine jgo (P := fun H locs => va_P (dC, dI) vwCl (gW cI h0 qme0 qre1 qco2 st) H ∧ va_S (gA h0 qme0 qre1 qco2 s.heap.size) s.heap H locs) ⟨hP, hS⟩ (fun H locs hPS => ?_)
  obtain ⟨hP, hS⟩ := hPS
  have hl : lv_has ls 4 [(0, .ref h0), (1, .int p1)] := hl
  refine lv_iload_n hx hb dX0_branch_0 rfl (lv_at hl 1 rfl) ?_
  refine W.callR (W.runS (As := [.int p1]) (rest := []) ⟨hx, hb, hml, hown, hts⟩ (ch_fOf l p1) (cwS 1 hts (gS mL_0_131 mS_0_fOf mN_0 mB_0_fOf) rfl rfl rfl (by decide +kernel) ⟨Nat.le_of_ble_eq_true rfl, Nat.le_of_ble_eq_true rfl⟩) ⟨jblind, fun _ _ _ => ⟨rfl, trivial⟩⟩ rfl rfl hl.1 rfl (lv_room (Nat.le_of_ble_eq_true rfl)) dX0_branch_1 ⟨Nat.zero_le _, Nat.zero_le _⟩) ?_
  refine W.eq (g2 := F0 m 4 ls (.int (h_fOf p1) :: [])) rfl ?_
  refine lv_topi (fun x1 ex1 => ?_)
  refine lv_istore_n (lv' := [(2, .int x1), (0, .ref h0), (1, .int p1)]) hx hb dX0_branch_4 rfl hl (by decide) rfl (fun ls hl => ?_)
  refine lv_iload_n hx hb dX0_branch_5 rfl (lv_at hl 0 rfl) ?_
  refine lv_iconst (v := 2) hx hb dX0_branch_6 (by decide) ?_
  refine lv_icmp_eq (tgt := 15) hx hb dX0_branch_7 (by decide) (fun c2 => ?_) (fun c2 => ?_)
  · refine lv_aload_n hx hb dX0_branch_15 rfl (lv_at hl 1 rfl) ?_
    refine lv_iload_n hx hb dX0_branch_16 rfl (lv_at hl 2 rfl) ?_
    refine gMi (As := [.int p1]) (rest := []) (f := h_refuse st p1) ⟨hx, hb, hml, hown, hts⟩ (ch_refuse l dC dI cI h0 qme0 qre1 qco2 tN tB H.size st p1) (cwV 1 hts (gV mL_0_140 mI_0_refuse mX_0_refuse mN_0 mB_0_refuse) rfl rfl rfl (by decide +kernel) ⟨Nat.le_of_ble_eq_true rfl, Nat.le_of_ble_eq_true rfl⟩) hK hP hD hS hZ rfl hl.1 rfl (Nat.le_of_ble_eq_true rfl) dX0_branch_17 ⟨Nat.zero_le _, Nat.zero_le _⟩ (fun z3 ez3 H locs hP hD hS => ?_)
    have hP : va_P (dC, dI) vwCl (gW cI h0 qme0 qre1 qco2 z3.2) H := hP
    have hD : va_D (gA h0 qme0 qre1 qco2 s.heap.size) (gW cI h0 qme0 qre1 qco2 z3.2) := hD
    exact gZret (v := z3.1) (u := z3.2) hx hb hr hlocks (jnb (by rw [ez3]; exact hb_refuse st p1)) (by subst ez3 ex1; exact (((if_pos c2).trans rfl)).symm) hK hP hD hS dX0_branch_20
  · refine lv_iload_n hx hb dX0_branch_10 rfl (lv_at hl 0 rfl) ?_
    refine lv_iconst (v := 3) hx hb dX0_branch_11 (by decide) ?_
    refine lv_icmp_ne (tgt := 21) hx hb dX0_branch_12 (by decide) (fun c4 => ?_) (fun c4 => ?_)
    · refine lv_iload_n hx hb dX0_branch_21 rfl (lv_at hl 0 rfl) ?_
      refine lv_aload_n hx hb dX0_branch_22 rfl (lv_at hl 1 rfl) ?_
      refine lv_iload_n hx hb dX0_branch_23 rfl (lv_at hl 2 rfl) ?_
      refine gR (As := [.int p1]) (rest := [.int x1]) (f := h_aOf st p1) ⟨hx, hb, hml, hown, hts⟩ (ch_aOf l dC dI cI h0 qme0 qre1 qco2 tN tB H.size st p1) (cwV 1 hts (gV mL_0_134 mI_0_aOf mX_0_aOf mN_0 mB_0_aOf) rfl rfl rfl (by decide +kernel) ⟨Nat.le_of_ble_eq_true rfl, Nat.le_of_ble_eq_true rfl⟩) hK hP hD hS hZ rfl hl.1 rfl (Nat.le_of_ble_eq_true rfl) dX0_branch_24 ⟨Nat.zero_le _, Nat.zero_le _⟩ ?_
      refine lv_topi (fun x5 ex5 => ?_)
      refine lv_aload_n hx hb dX0_branch_27 rfl (lv_at hl 1 rfl) ?_
      refine lv_iload_n hx hb dX0_branch_28 rfl (lv_at hl 2 rfl) ?_
      refine gR (As := [.int p1]) (rest := [.int x5, .int x1]) (f := h_bOf st p1) ⟨hx, hb, hml, hown, hts⟩ (ch_bOf l dC dI cI h0 qme0 qre1 qco2 tN tB H.size st p1) (cwV 1 hts (gV mL_0_161 mI_0_bOf mX_0_bOf mN_0 mB_0_bOf) rfl rfl rfl (by decide +kernel) ⟨Nat.le_of_ble_eq_true rfl, Nat.le_of_ble_eq_true rfl⟩) hK hP hD hS hZ rfl hl.1 rfl (Nat.le_of_ble_eq_true rfl) dX0_branch_29 ⟨Nat.zero_le _, Nat.zero_le _⟩ ?_
      refine lv_topi (fun x6 ex6 => ?_)
      refine W.callR (W.runS (As := [.int x1, .int x5, .int x6]) (rest := []) ⟨hx, hb, hml, hown, hts⟩ (ch_isTaken l x1 x5 x6) (cwS 3 hts (gS mL_0_164 mS_0_isTaken mN_0 mB_0_isTaken) rfl rfl rfl (by decide +kernel) ⟨Nat.le_of_ble_eq_true rfl, Nat.le_of_ble_eq_true rfl⟩) ⟨jblind, fun _ _ _ => ⟨rfl, trivial⟩⟩ rfl rfl hl.1 rfl (lv_room (Nat.le_of_ble_eq_true rfl)) dX0_branch_32 ⟨Nat.zero_le _, Nat.zero_le _⟩) ?_
      refine W.eq (g2 := F0 m 35 ls (.int (h_isTaken x1 x5 x6) :: [])) rfl ?_
      refine lv_topi (fun x7 ex7 => ?_)
      refine lv_if_ne (tgt := 43) hx hb dX0_branch_35 (by decide) (fun c8 => ?_) (fun c8 => ?_)
      · refine lv_aload_n hx hb dX0_branch_43 rfl (lv_at hl 1 rfl) ?_
        refine va_get (D := (dC, dI)) (ci := 0) (v := .int st.2.2.2.1) (C := "PagedHart") (T := TX0) (N := 6) hx hb hts mU0 hown hK hP 0 rfl rfl 3 (by decide) (hts _ mF_0_20) (fun _ h9 => h9) rfl dX0_branch_44 ?_
        refine lv_iload_n hx hb dX0_branch_47 rfl (lv_at hl 2 rfl) ?_
        refine W.callR (W.runS (As := [.int p1]) (rest := [.int st.2.2.2.1]) ⟨hx, hb, hml, hown, hts⟩ (ch_branchDistance l p1) (cwS 1 hts (gS mL_0_168 mS_0_branchDistance mN_0 mB_0_branchDistance) rfl rfl rfl (by decide +kernel) ⟨Nat.le_of_ble_eq_true rfl, Nat.le_of_ble_eq_true rfl⟩) ⟨jblind, fun _ _ _ => ⟨rfl, trivial⟩⟩ rfl rfl hl.1 rfl (lv_room (Nat.le_of_ble_eq_true rfl)) dX0_branch_48 ⟨Nat.zero_le _, Nat.zero_le _⟩) ?_
        refine W.eq (g2 := F0 m 51 ls (.int (h_branchDistance p1) :: [.int st.2.2.2.1])) rfl ?_
        refine lv_topi (fun x9 ex9 => ?_)
        refine lv_iadd hx hb dX0_branch_51 ?_
        refine lv_topi (fun x10 ex10 => ?_)
        refine lv_istore_n (lv' := [(3, .int x10), (2, .int x1), (0, .ref h0), (1, .int p1)]) hx hb dX0_branch_52 rfl hl (by decide) rfl (fun ls hl => ?_)
        refine lv_iload_n hx hb dX0_branch_53 rfl (lv_at hl 0 rfl) ?_
        refine lv_iconst (v := 3) hx hb dX0_branch_54 (by decide) ?_
        refine lv_iand hx hb dX0_branch_55 ?_
        refine lv_if_eq (tgt := 66) hx hb dX0_branch_56 (by decide) (fun c11 => ?_) (fun c11 => ?_)
        · refine lv_aload_n hx hb dX0_branch_66 rfl (lv_at hl 2 rfl) ?_
          refine lv_iload_n hx hb dX0_branch_67 rfl (lv_at hl 0 rfl) ?_
          refine va_put (D := (dC, dI)) (ci := 0) (v := .int x10) (ty := .int) (C := "PagedHart") (T := TX0) (N := 6) hx hb hts mU0 tyX0 tyX0_ok nmX0 hown hK hP hD hS 0 rfl rfl 3 (by decide) (hts _ mF_0_20) (fun _ h9 => h9) rfl (by decide +kernel) rfl rfl (Nat.le_of_ble_eq_true rfl) dX0_branch_68 (fun H locs hP hD hS => ?_)
          have hP : va_P (dC, dI) vwCl (gW cI h0 qme0 qre1 qco2 (st.1, st.2.1, st.2.2.1, x10, st.2.2.2.2.1, st.2.2.2.2.2)) H := hP
          have hD : va_D (gA h0 qme0 qre1 qco2 s.heap.size) (gW cI h0 qme0 qre1 qco2 (st.1, st.2.1, st.2.2.1, x10, st.2.2.2.2.1, st.2.2.2.2.2)) := hD
          refine lv_iconst (v := 1) hx hb dX0_branch_71 (by decide) ?_
          exact gZret (v := 1) (u := (st.1, st.2.1, st.2.2.1, x10, st.2.2.2.2.1, st.2.2.2.2.2)) hx hb hr hlocks rfl (by subst ex10 ex9 ex7 ex6 ex5 ex1; exact (((if_neg c2).trans ((if_neg c4).trans ((if_neg c8).trans ((if_pos c11).trans rfl))))).symm) hK hP hD hS dX0_branch_72
        · refine lv_aload_n hx hb dX0_branch_59 rfl (lv_at hl 2 rfl) ?_
          refine lv_iconst (v := 0) hx hb dX0_branch_60 (by decide) ?_
          refine lv_iload_n hx hb dX0_branch_61 rfl (lv_at hl 0 rfl) ?_
          refine gMi (As := [.int 0, .int x10]) (rest := []) (f := h_trap st (0 : Int32) x10) ⟨hx, hb, hml, hown, hts⟩ (ch_trap l dC dI cI h0 qme0 qre1 qco2 tN tB H.size st (0 : Int32) x10) (cwV 2 hts (gV mL_0_96 mI_0_trap mX_0_trap mN_0 mB_0_trap) rfl rfl rfl (by decide +kernel) ⟨Nat.le_of_ble_eq_true rfl, Nat.le_of_ble_eq_true rfl⟩) hK hP hD hS hZ rfl hl.1 rfl (Nat.le_of_ble_eq_true rfl) dX0_branch_62 ⟨Nat.zero_le _, Nat.zero_le _⟩ (fun z12 ez12 H locs hP hD hS => ?_)
          have hP : va_P (dC, dI) vwCl (gW cI h0 qme0 qre1 qco2 z12.2) H := hP
          have hD : va_D (gA h0 qme0 qre1 qco2 s.heap.size) (gW cI h0 qme0 qre1 qco2 z12.2) := hD
          exact gZret (v := z12.1) (u := z12.2) hx hb hr hlocks (jnb (by rw [ez12]; exact hb_trap st (0 : Int32) x10)) (by subst ez12 ex10 ex9 ex7 ex6 ex5 ex1; exact (((if_neg c2).trans ((if_neg c4).trans ((if_neg c8).trans ((if_neg c11).trans rfl))))).symm) hK hP hD hS dX0_branch_65
      · refine lv_aload_n hx hb dX0_branch_38 rfl (lv_at hl 1 rfl) ?_
        refine gMi (As := []) (rest := []) (f := h_goOn st) ⟨hx, hb, hml, hown, hts⟩ (ch_goOn l dC dI cI h0 qme0 qre1 qco2 tN tB H.size st ) (cwV 0 hts (gV mL_0_115 mI_0_goOn mX_0_goOn mN_0 mB_0_goOn) rfl rfl rfl (by decide +kernel) ⟨Nat.le_of_ble_eq_true rfl, Nat.le_of_ble_eq_true rfl⟩) hK hP hD hS hZ rfl hl.1 rfl (Nat.le_of_ble_eq_true rfl) dX0_branch_39 ⟨Nat.zero_le _, Nat.zero_le _⟩ (fun z13 ez13 H locs hP hD hS => ?_)
        have hP : va_P (dC, dI) vwCl (gW cI h0 qme0 qre1 qco2 z13.2) H := hP
        have hD : va_D (gA h0 qme0 qre1 qco2 s.heap.size) (gW cI h0 qme0 qre1 qco2 z13.2) := hD
        exact gZret (v := z13.1) (u := z13.2) hx hb hr hlocks (jnb (by rw [ez13]; exact hb_goOn st)) (by subst ez13 ex7 ex6 ex5 ex1; exact (((if_neg c2).trans ((if_neg c4).trans ((if_pos c8).trans rfl)))).symm) hK hP hD hS dX0_branch_42
    · refine lv_aload_n hx hb dX0_branch_15 rfl (lv_at hl 1 rfl) ?_
      refine lv_iload_n hx hb dX0_branch_16 rfl (lv_at hl 2 rfl) ?_
      refine gMi (As := [.int p1]) (rest := []) (f := h_refuse st p1) ⟨hx, hb, hml, hown, hts⟩ (ch_refuse l dC dI cI h0 qme0 qre1 qco2 tN tB H.size st p1) (cwV 1 hts (gV mL_0_140 mI_0_refuse mX_0_refuse mN_0 mB_0_refuse) rfl rfl rfl (by decide +kernel) ⟨Nat.le_of_ble_eq_true rfl, Nat.le_of_ble_eq_true rfl⟩) hK hP hD hS hZ rfl hl.1 rfl (Nat.le_of_ble_eq_true rfl) dX0_branch_17 ⟨Nat.zero_le _, Nat.zero_le _⟩ (fun z14 ez14 H locs hP hD hS => ?_)
      have hP : va_P (dC, dI) vwCl (gW cI h0 qme0 qre1 qco2 z14.2) H := hP
      have hD : va_D (gA h0 qme0 qre1 qco2 s.heap.size) (gW cI h0 qme0 qre1 qco2 z14.2) := hD
      exact gZret (v := z14.1) (u := z14.2) hx hb hr hlocks (jnb (by rw [ez14]; exact hb_refuse st p1)) (by subst ez14 ex1; exact (((if_neg c2).trans ((if_pos c4).trans rfl))).symm) hK hP hD hS dX0_branch_20
theorem hb_branch (st : HS) (p1 : Int32) : (h_branch st p1).1 = 0 ∨ (h_branch st p1).1 = 1 := by
  unfold h_branch
  try dsimp only
  (repeat' split) <;> first | with_reducible exact hb_trap _ _ _ | with_reducible exact hb_refuse _ _ | with_reducible exact hb_goOn _ | with_reducible exact hb_goOnWith _ _ _ | with_reducible exact hb_jump _ _ _ | exact Or.inl rfl | exact Or.inr rfl
end
section
def h_load (st : HS) (p1 : Int32) : Int32 × HS :=
  let x1 : Int32 := h_fOf p1
  if x1 = (3 : Int32) then
    let z3 : Int32 × HS := h_refuse st p1
    z3
  else
    if x1 ≤ (5 : Int32) then
      let x5 : Int32 := h_aOf st p1
      let x6 : Int32 := h_iOf p1
      let x7 : Int32 := x5 + x6
      let x8 : Int32 := h_locateAligned st x7 (1 : Int32) ((1 : Int32) <<< ((x1 &&& (3 : Int32)) &&& 31))
      if 0 ≤ x8 then
        let x10 : Int32 := jush (st.1 (jush x8 (2 : Int32)).toNatClampNeg) ((x8 &&& (3 : Int32)) <<< ((3 : Int32) &&& 31))
        let x11 : Int32 := h_extend x1 x10
        let z12 : Int32 × HS := h_goOnWith st p1 x11
        z12
      else
        let z13 : Int32 × HS := h_trap st (((-1) : Int32) - x8) x7
        z13
    else
      let z14 : Int32 × HS := h_refuse st p1
      z14
set_option maxHeartbeats 4000000 in
set_option maxRecDepth 100000 in
theorem ch_load (l : Launch) (dC : Nat → ClassId) (dI : Nat → Nat → Nat) (cI h0 qme0 qre1 qco2 tN tB : Nat) (sz : Nat) (st : HS) (p1 : Int32)  : Met l yX0_load (.code yX0_load cX0_load 5 (some .boolean) :: gBIG) ({ frames := 3, cells := 0, slots := 0, locals := 75 }) (va_Pc [.ref h0, .int p1] (gPre dC dI cI h0 qme0 qre1 qco2 tN tB sz st)) (va_Qi (fun r v => (r, v) = h_load st p1) (gB dC dI cI h0 qme0 qre1 qco2 (gA h0 qme0 qre1 qco2 sz)) (gA h0 qme0 qre1 qco2 sz)) 0 0 (gA h0 qme0 qre1 qco2 sz) := by
  refine Met.ofW (cc := cX0_load) (maxL := 5) (ret := (some .boolean)) (by decide) rfl ?_
  intro p e s m args below meth c s₁ B hml hv
  obtain ⟨rfl, hsz, hP, hK, hD0, hZ⟩ := hv
  have hx := B.exec
  have hb := B.bytes
  have hr := B.returns
  have hts : ∀ w ∈ gBIG, w.before _ s = true := fun w h => atoms_spec (ws := (.code yX0_load cX0_load 5 (some .boolean) :: gBIG)) B.pre w (List.mem_cons_of_mem _ h)
  have hown : s.vm.findClass "PagedHart" = some m.cls := findClass_of_methodNamed B.named
  have hlocks := B.notSynchronized
  subst hsz
  have hD : va_D (gA h0 qme0 qre1 qco2 s.heap.size) (gW cI h0 qme0 qre1 qco2 st) := gD hD0
  have hS : va_S (gA h0 qme0 qre1 qco2 s.heap.size) s.heap s.heap [] := va_S.rf
  have hP : va_P (dC, dI) vwCl (gW cI h0 qme0 qre1 qco2 st) s.heap := hP
  have hl := lv_entry ([.ref h0, .int p1]) (n := 5) (Nat.le_of_ble_eq_true rfl)
  rw [lg_entry_eq]
  generalize (lg_sl ([.ref h0, .int p1]) ++ List.replicate (5 - (lg_sl ([.ref h0, .int p1])).length) Slot.unset).toArray = ls at hl ⊢
  refine jgo (P := fun H locs => va_P (dC, dI) vwCl (gW cI h0 qme0 qre1 qco2 st) H ∧ va_S (gA h0 qme0 qre1 qco2 s.heap.size) s.heap H locs) ⟨hP, hS⟩ (fun H locs hPS => ?_)
  obtain ⟨hP, hS⟩ := hPS
  have hl : lv_has ls 5 [(0, .ref h0), (1, .int p1)] := hl
  refine lv_iload_n hx hb dX0_load_0 rfl (lv_at hl 1 rfl) ?_
  refine W.callR (W.runS (As := [.int p1]) (rest := []) ⟨hx, hb, hml, hown, hts⟩ (ch_fOf l p1) (cwS 1 hts (gS mL_0_131 mS_0_fOf mN_0 mB_0_fOf) rfl rfl rfl (by decide +kernel) ⟨Nat.le_of_ble_eq_true rfl, Nat.le_of_ble_eq_true rfl⟩) ⟨jblind, fun _ _ _ => ⟨rfl, trivial⟩⟩ rfl rfl hl.1 rfl (lv_room (Nat.le_of_ble_eq_true rfl)) dX0_load_1 ⟨Nat.zero_le _, Nat.zero_le _⟩) ?_
  refine W.eq (g2 := F0 m 4 ls (.int (h_fOf p1) :: [])) rfl ?_
  refine lv_topi (fun x1 ex1 => ?_)
  refine lv_istore_n (lv' := [(2, .int x1), (0, .ref h0), (1, .int p1)]) hx hb dX0_load_4 rfl hl (by decide) rfl (fun ls hl => ?_)
  refine lv_iload_n hx hb dX0_load_5 rfl (lv_at hl 0 rfl) ?_
  refine lv_iconst (v := 3) hx hb dX0_load_6 (by decide) ?_
  refine lv_icmp_eq (tgt := 15) hx hb dX0_load_7 (by decide) (fun c2 => ?_) (fun c2 => ?_)
  · refine lv_aload_n hx hb dX0_load_15 rfl (lv_at hl 1 rfl) ?_
    refine lv_iload_n hx hb dX0_load_16 rfl (lv_at hl 2 rfl) ?_
    refine gMi (As := [.int p1]) (rest := []) (f := h_refuse st p1) ⟨hx, hb, hml, hown, hts⟩ (ch_refuse l dC dI cI h0 qme0 qre1 qco2 tN tB H.size st p1) (cwV 1 hts (gV mL_0_140 mI_0_refuse mX_0_refuse mN_0 mB_0_refuse) rfl rfl rfl (by decide +kernel) ⟨Nat.le_of_ble_eq_true rfl, Nat.le_of_ble_eq_true rfl⟩) hK hP hD hS hZ rfl hl.1 rfl (Nat.le_of_ble_eq_true rfl) dX0_load_17 ⟨Nat.zero_le _, Nat.zero_le _⟩ (fun z3 ez3 H locs hP hD hS => ?_)
    have hP : va_P (dC, dI) vwCl (gW cI h0 qme0 qre1 qco2 z3.2) H := hP
    have hD : va_D (gA h0 qme0 qre1 qco2 s.heap.size) (gW cI h0 qme0 qre1 qco2 z3.2) := hD
    exact gZret (v := z3.1) (u := z3.2) hx hb hr hlocks (jnb (by rw [ez3]; exact hb_refuse st p1)) (by subst ez3 ex1; exact (((if_pos c2).trans rfl)).symm) hK hP hD hS dX0_load_20
  · refine lv_iload_n hx hb dX0_load_10 rfl (lv_at hl 0 rfl) ?_
    refine lv_iconst (v := 5) hx hb dX0_load_11 (by decide) ?_
    refine lv_icmp_le (tgt := 21) hx hb dX0_load_12 (by decide) (fun c4 => ?_) (fun c4 => ?_)
    · refine lv_aload_n hx hb dX0_load_21 rfl (lv_at hl 1 rfl) ?_
      refine lv_iload_n hx hb dX0_load_22 rfl (lv_at hl 2 rfl) ?_
      refine gR (As := [.int p1]) (rest := []) (f := h_aOf st p1) ⟨hx, hb, hml, hown, hts⟩ (ch_aOf l dC dI cI h0 qme0 qre1 qco2 tN tB H.size st p1) (cwV 1 hts (gV mL_0_134 mI_0_aOf mX_0_aOf mN_0 mB_0_aOf) rfl rfl rfl (by decide +kernel) ⟨Nat.le_of_ble_eq_true rfl, Nat.le_of_ble_eq_true rfl⟩) hK hP hD hS hZ rfl hl.1 rfl (Nat.le_of_ble_eq_true rfl) dX0_load_23 ⟨Nat.zero_le _, Nat.zero_le _⟩ ?_
      refine lv_topi (fun x5 ex5 => ?_)
      refine lv_iload_n hx hb dX0_load_26 rfl (lv_at hl 2 rfl) ?_
      refine W.callR (W.runS (As := [.int p1]) (rest := [.int x5]) ⟨hx, hb, hml, hown, hts⟩ (ch_iOf l p1) (cwS 1 hts (gS mL_0_137 mS_0_iOf mN_0 mB_0_iOf) rfl rfl rfl (by decide +kernel) ⟨Nat.le_of_ble_eq_true rfl, Nat.le_of_ble_eq_true rfl⟩) ⟨jblind, fun _ _ _ => ⟨rfl, trivial⟩⟩ rfl rfl hl.1 rfl (lv_room (Nat.le_of_ble_eq_true rfl)) dX0_load_27 ⟨Nat.zero_le _, Nat.zero_le _⟩) ?_
      refine W.eq (g2 := F0 m 30 ls (.int (h_iOf p1) :: [.int x5])) rfl ?_
      refine lv_topi (fun x6 ex6 => ?_)
      refine lv_iadd hx hb dX0_load_30 ?_
      refine lv_topi (fun x7 ex7 => ?_)
      refine lv_istore_n (lv' := [(3, .int x7), (2, .int x1), (0, .ref h0), (1, .int p1)]) hx hb dX0_load_31 rfl hl (by decide) rfl (fun ls hl => ?_)
      refine lv_aload_n hx hb dX0_load_32 rfl (lv_at hl 2 rfl) ?_
      refine lv_iload_n hx hb dX0_load_33 rfl (lv_at hl 0 rfl) ?_
      refine lv_iconst (v := 1) hx hb dX0_load_34 (by decide) ?_
      refine lv_iconst (v := 1) hx hb dX0_load_35 (by decide) ?_
      refine lv_iload_n hx hb dX0_load_36 rfl (lv_at hl 1 rfl) ?_
      refine lv_iconst (v := 3) hx hb dX0_load_37 (by decide) ?_
      refine lv_iand hx hb dX0_load_38 ?_
      refine lv_ishl hx hb dX0_load_39 ?_
      refine gR (As := [.int x7, .int 1, .int ((1 : Int32) <<< ((x1 &&& (3 : Int32)) &&& 31))]) (rest := []) (f := h_locateAligned st x7 (1 : Int32) ((1 : Int32) <<< ((x1 &&& (3 : Int32)) &&& 31))) ⟨hx, hb, hml, hown, hts⟩ (ch_locateAligned l dC dI cI h0 qme0 qre1 qco2 tN tB H.size st x7 (1 : Int32) ((1 : Int32) <<< ((x1 &&& (3 : Int32)) &&& 31))) (cwV 3 hts (gV mL_0_100 mI_0_locateAligned mX_0_locateAligned mN_0 mB_0_locateAligned) rfl rfl rfl (by decide +kernel) ⟨Nat.le_of_ble_eq_true rfl, Nat.le_of_ble_eq_true rfl⟩) hK hP hD hS hZ rfl hl.1 rfl (Nat.le_of_ble_eq_true rfl) dX0_load_40 ⟨Nat.zero_le _, Nat.zero_le _⟩ ?_
      refine lv_topi (fun x8 ex8 => ?_)
      refine lv_istore (lv' := [(4, .int x8), (3, .int x7), (2, .int x1), (0, .ref h0), (1, .int p1)]) hx hb dX0_load_43 hl (by decide) rfl (fun ls hl => ?_)
      refine lv_iload hx hb dX0_load_45 (lv_at hl 0 rfl) ?_
      refine lv_if_ge (tgt := 60) hx hb dX0_load_47 (by decide) (fun c9 => ?_) (fun c9 => ?_)
      · refine lv_aload_n hx hb dX0_load_60 rfl (lv_at hl 3 rfl) ?_
        refine lv_iload_n hx hb dX0_load_61 rfl (lv_at hl 4 rfl) ?_
        refine lv_iload_n hx hb dX0_load_62 rfl (lv_at hl 2 rfl) ?_
        refine lv_aload_n hx hb dX0_load_63 rfl (lv_at hl 3 rfl) ?_
        refine va_get (D := (dC, dI)) (ci := 0) (v := .ref qme0) (C := "PagedHart") (T := TX0) (N := 6) hx hb hts mU0 hown hK hP 0 rfl rfl 0 (by decide) (hts _ mF_0_10) (fun _ h9 => h9) rfl dX0_load_64 ?_
        refine lv_iload hx hb dX0_load_67 (lv_at hl 0 rfl) ?_
        refine lv_iconst (v := 2) hx hb dX0_load_69 (by decide) ?_
        refine lv_iushr (v := jush x8 (2 : Int32)) hx hb dX0_load_70 rfl ?_
        refine va_iald (D := (dC, dI)) hx hb hK hP 1 0 rfl rfl (by rw [ex8]; exact h_in2 (by rw [← ex8]; exact c9)) dX0_load_71 ?_
        refine lv_iload hx hb dX0_load_72 (lv_at hl 0 rfl) ?_
        refine lv_iconst (v := 3) hx hb dX0_load_74 (by decide) ?_
        refine lv_iand hx hb dX0_load_75 ?_
        refine lv_iconst (v := 3) hx hb dX0_load_76 (by decide) ?_
        refine lv_ishl hx hb dX0_load_77 ?_
        refine lv_iushr (v := jush (st.1 (jush x8 (2 : Int32)).toNatClampNeg) ((x8 &&& (3 : Int32)) <<< ((3 : Int32) &&& 31))) hx hb dX0_load_78 rfl ?_
        refine lv_topi (fun x10 ex10 => ?_)
        refine W.callR (W.runS (As := [.int x1, .int x10]) (rest := [.int p1, .ref h0]) ⟨hx, hb, hml, hown, hts⟩ (ch_extend l x1 x10) (cwS 2 hts (gS mL_0_176 mS_0_extend mN_0 mB_0_extend) rfl rfl rfl (by decide +kernel) ⟨Nat.le_of_ble_eq_true rfl, Nat.le_of_ble_eq_true rfl⟩) ⟨jblind, fun _ _ _ => ⟨rfl, trivial⟩⟩ rfl rfl hl.1 rfl (lv_room (Nat.le_of_ble_eq_true rfl)) dX0_load_79 ⟨Nat.zero_le _, Nat.zero_le _⟩) ?_
        refine W.eq (g2 := F0 m 82 ls (.int (h_extend x1 x10) :: [.int p1, .ref h0])) rfl ?_
        refine lv_topi (fun x11 ex11 => ?_)
        refine gMi (As := [.int p1, .int x11]) (rest := []) (f := h_goOnWith st p1 x11) ⟨hx, hb, hml, hown, hts⟩ (ch_goOnWith l dC dI cI h0 qme0 qre1 qco2 tN tB H.size st p1 x11) (cwV 2 hts (gV mL_0_122 mI_0_goOnWith mX_0_goOnWith mN_0 mB_0_goOnWith) rfl rfl rfl (by decide +kernel) ⟨Nat.le_of_ble_eq_true rfl, Nat.le_of_ble_eq_true rfl⟩) hK hP hD hS hZ rfl hl.1 rfl (Nat.le_of_ble_eq_true rfl) dX0_load_82 ⟨Nat.zero_le _, Nat.zero_le _⟩ (fun z12 ez12 H locs hP hD hS => ?_)
        have hP : va_P (dC, dI) vwCl (gW cI h0 qme0 qre1 qco2 z12.2) H := hP
        have hD : va_D (gA h0 qme0 qre1 qco2 s.heap.size) (gW cI h0 qme0 qre1 qco2 z12.2) := hD
        exact gZret (v := z12.1) (u := z12.2) hx hb hr hlocks (jnb (by rw [ez12]; exact hb_goOnWith st p1 x11)) (by subst ez12 ex11 ex10 ex8 ex7 ex6 ex5 ex1; exact (((if_neg c2).trans ((if_pos c4).trans ((if_pos c9).trans rfl)))).symm) hK hP hD hS dX0_load_85
      · refine lv_aload_n hx hb dX0_load_50 rfl (lv_at hl 3 rfl) ?_
        refine lv_iconst (v := (-1)) hx hb dX0_load_51 (by decide) ?_
        refine lv_iload hx hb dX0_load_52 (lv_at hl 0 rfl) ?_
        refine lv_isub hx hb dX0_load_54 ?_
        refine lv_iload_n hx hb dX0_load_55 rfl (lv_at hl 1 rfl) ?_
        refine gMi (As := [.int (((-1) : Int32) - x8), .int x7]) (rest := []) (f := h_trap st (((-1) : Int32) - x8) x7) ⟨hx, hb, hml, hown, hts⟩ (ch_trap l dC dI cI h0 qme0 qre1 qco2 tN tB H.size st (((-1) : Int32) - x8) x7) (cwV 2 hts (gV mL_0_96 mI_0_trap mX_0_trap mN_0 mB_0_trap) rfl rfl rfl (by decide +kernel) ⟨Nat.le_of_ble_eq_true rfl, Nat.le_of_ble_eq_true rfl⟩) hK hP hD hS hZ rfl hl.1 rfl (Nat.le_of_ble_eq_true rfl) dX0_load_56 ⟨Nat.zero_le _, Nat.zero_le _⟩ (fun z13 ez13 H locs hP hD hS => ?_)
        have hP : va_P (dC, dI) vwCl (gW cI h0 qme0 qre1 qco2 z13.2) H := hP
        have hD : va_D (gA h0 qme0 qre1 qco2 s.heap.size) (gW cI h0 qme0 qre1 qco2 z13.2) := hD
        exact gZret (v := z13.1) (u := z13.2) hx hb hr hlocks (jnb (by rw [ez13]; exact hb_trap st (((-1) : Int32) - x8) x7)) (by subst ez13 ex8 ex7 ex6 ex5 ex1; exact (((if_neg c2).trans ((if_pos c4).trans ((if_neg c9).trans rfl)))).symm) hK hP hD hS dX0_load_59
    · refine lv_aload_n hx hb dX0_load_15 rfl (lv_at hl 1 rfl) ?_
      refine lv_iload_n hx hb dX0_load_16 rfl (lv_at hl 2 rfl) ?_
      refine gMi (As := [.int p1]) (rest := []) (f := h_refuse st p1) ⟨hx, hb, hml, hown, hts⟩ (ch_refuse l dC dI cI h0 qme0 qre1 qco2 tN tB H.size st p1) (cwV 1 hts (gV mL_0_140 mI_0_refuse mX_0_refuse mN_0 mB_0_refuse) rfl rfl rfl (by decide +kernel) ⟨Nat.le_of_ble_eq_true rfl, Nat.le_of_ble_eq_true rfl⟩) hK hP hD hS hZ rfl hl.1 rfl (Nat.le_of_ble_eq_true rfl) dX0_load_17 ⟨Nat.zero_le _, Nat.zero_le _⟩ (fun z14 ez14 H locs hP hD hS => ?_)
      have hP : va_P (dC, dI) vwCl (gW cI h0 qme0 qre1 qco2 z14.2) H := hP
      have hD : va_D (gA h0 qme0 qre1 qco2 s.heap.size) (gW cI h0 qme0 qre1 qco2 z14.2) := hD
      exact gZret (v := z14.1) (u := z14.2) hx hb hr hlocks (jnb (by rw [ez14]; exact hb_refuse st p1)) (by subst ez14 ex1; exact (((if_neg c2).trans ((if_neg c4).trans rfl))).symm) hK hP hD hS dX0_load_20
theorem hb_load (st : HS) (p1 : Int32) : (h_load st p1).1 = 0 ∨ (h_load st p1).1 = 1 := by
  unfold h_load
  try dsimp only
  (repeat' split) <;> first | with_reducible exact hb_trap _ _ _ | with_reducible exact hb_refuse _ _ | with_reducible exact hb_goOn _ | with_reducible exact hb_goOnWith _ _ _ | with_reducible exact hb_jump _ _ _ | with_reducible exact hb_branch _ _ | exact Or.inl rfl | exact Or.inr rfl

def h_store (st : HS) (p1 : Int32) : Int32 × HS :=
  let x1 : Int32 := h_fOf p1
  if x1 ≤ (2 : Int32) then
    let x3 : Int32 := h_aOf st p1
    let x4 : Int32 := h_sOf p1
    let x5 : Int32 := x3 + x4
    let x6 : Int32 := h_locateAligned st x5 (2 : Int32) ((1 : Int32) <<< (x1 &&& 31))
    if 0 ≤ x6 then
      let x8 : Int32 := (x6 &&& (3 : Int32)) <<< ((3 : Int32) &&& 31)
      let x9 : Int32 := h_maskOf x1
      let x10 : Int32 := x9 <<< (x8 &&& 31)
      let x11 : Int32 := (st.1 (jush x6 (2 : Int32)).toNatClampNeg) &&& (x10 ^^^ ((-1) : Int32))
      let x12 : Int32 := h_bOf st p1
      let z13 : Int32 × HS := h_goOn (upd st.1 (jush x6 (2 : Int32)).toNatClampNeg (x11 ||| ((x12 <<< (x8 &&& 31)) &&& x10)), st.2.1, st.2.2.1, st.2.2.2.1, st.2.2.2.2.1, st.2.2.2.2.2)
      z13
    else
      let z14 : Int32 × HS := h_trap st (((-1) : Int32) - x6) x5
      z14
  else
    let z15 : Int32 × HS := h_refuse st p1
    z15
set_option maxHeartbeats 4000000 in
set_option maxRecDepth 100000 in
theorem ch_store (l : Launch) (dC : Nat → ClassId) (dI : Nat → Nat → Nat) (cI h0 qme0 qre1 qco2 tN tB : Nat) (sz : Nat) (st : HS) (p1 : Int32)  : Met l yX0_store (.code yX0_store cX0_store 7 (some .boolean) :: gBIG) ({ frames := 3, cells := 0, slots := 0, locals := 75 }) (va_Pc [.ref h0, .int p1] (gPre dC dI cI h0 qme0 qre1 qco2 tN tB sz st)) (va_Qi (fun r v => (r, v) = h_store st p1) (gB dC dI cI h0 qme0 qre1 qco2 (gA h0 qme0 qre1 qco2 sz)) (gA h0 qme0 qre1 qco2 sz)) 0 0 (gA h0 qme0 qre1 qco2 sz) := by
  refine Met.ofW (cc := cX0_store) (maxL := 7) (ret := (some .boolean)) (by decide) rfl ?_
  intro p e s m args below meth c s₁ B hml hv
  obtain ⟨rfl, hsz, hP, hK, hD0, hZ⟩ := hv
  have hx := B.exec
  have hb := B.bytes
  have hr := B.returns
  have hts : ∀ w ∈ gBIG, w.before _ s = true := fun w h => atoms_spec (ws := (.code yX0_store cX0_store 7 (some .boolean) :: gBIG)) B.pre w (List.mem_cons_of_mem _ h)
  have hown : s.vm.findClass "PagedHart" = some m.cls := findClass_of_methodNamed B.named
  have hlocks := B.notSynchronized
  subst hsz
  have hD : va_D (gA h0 qme0 qre1 qco2 s.heap.size) (gW cI h0 qme0 qre1 qco2 st) := gD hD0
  have hS : va_S (gA h0 qme0 qre1 qco2 s.heap.size) s.heap s.heap [] := va_S.rf
  have hP : va_P (dC, dI) vwCl (gW cI h0 qme0 qre1 qco2 st) s.heap := hP
  have hl := lv_entry ([.ref h0, .int p1]) (n := 7) (Nat.le_of_ble_eq_true rfl)
  rw [lg_entry_eq]
  generalize (lg_sl ([.ref h0, .int p1]) ++ List.replicate (7 - (lg_sl ([.ref h0, .int p1])).length) Slot.unset).toArray = ls at hl ⊢
  refine jgo (P := fun H locs => va_P (dC, dI) vwCl (gW cI h0 qme0 qre1 qco2 st) H ∧ va_S (gA h0 qme0 qre1 qco2 s.heap.size) s.heap H locs) ⟨hP, hS⟩ (fun H locs hPS => ?_)
  obtain ⟨hP, hS⟩ := hPS
  have hl : lv_has ls 7 [(0, .ref h0), (1, .int p1)] := hl
  refine lv_iload_n hx hb dX0_store_0 rfl (lv_at hl 1 rfl) ?_
  refine W.callR (W.runS (As := [.int p1]) (rest := []) ⟨hx, hb, hml, hown, hts⟩ (ch_fOf l p1) (cwS 1 hts (gS mL_0_131 mS_0_fOf mN_0 mB_0_fOf) rfl rfl rfl (by decide +kernel) ⟨Nat.le_of_ble_eq_true rfl, Nat.le_of_ble_eq_true rfl⟩) ⟨jblind, fun _ _ _ => ⟨rfl, trivial⟩⟩ rfl rfl hl.1 rfl (lv_room (Nat.le_of_ble_eq_true rfl)) dX0_store_1 ⟨Nat.zero_le _, Nat.zero_le _⟩) ?_
  refine W.eq (g2 := F0 m 4 ls (.int (h_fOf p1) :: [])) rfl ?_
  refine lv_topi (fun x1 ex1 => ?_)
  refine lv_istore_n (lv' := [(2, .int x1), (0, .ref h0), (1, .int p1)]) hx hb dX0_store_4 rfl hl (by decide) rfl (fun ls hl => ?_)
  refine lv_iload_n hx hb dX0_store_5 rfl (lv_at hl 0 rfl) ?_
  refine lv_iconst (v := 2) hx hb dX0_store_6 (by decide) ?_
  refine lv_icmp_le (tgt := 16) hx hb dX0_store_7 (by decide) (fun c2 => ?_) (fun c2 => ?_)
  · refine lv_aload_n hx hb dX0_store_16 rfl (lv_at hl 1 rfl) ?_
    refine lv_iload_n hx hb dX0_store_17 rfl (lv_at hl 2 rfl) ?_
    refine gR (As := [.int p1]) (rest := []) (f := h_aOf st p1) ⟨hx, hb, hml, hown, hts⟩ (ch_aOf l dC dI cI h0 qme0 qre1 qco2 tN tB H.size st p1) (cwV 1 hts (gV mL_0_134 mI_0_aOf mX_0_aOf mN_0 mB_0_aOf) rfl rfl rfl (by decide +kernel) ⟨Nat.le_of_ble_eq_true rfl, Nat.le_of_ble_eq_true rfl⟩) hK hP hD hS hZ rfl hl.1 rfl (Nat.le_of_ble_eq_true rfl) dX0_store_18 ⟨Nat.zero_le _, Nat.zero_le _⟩ ?_
    refine lv_topi (fun x3 ex3 => ?_)
    refine lv_iload_n hx hb dX0_store_21 rfl (lv_at hl 2 rfl) ?_
    refine W.callR (W.runS (As := [.int p1]) (rest := [.int x3]) ⟨hx, hb, hml, hown, hts⟩ (ch_sOf l p1) (cwS 1 hts (gS mL_0_180 mS_0_sOf mN_0 mB_0_sOf) rfl rfl rfl (by decide +kernel) ⟨Nat.le_of_ble_eq_true rfl, Nat.le_of_ble_eq_true rfl⟩) ⟨jblind, fun _ _ _ => ⟨rfl, trivial⟩⟩ rfl rfl hl.1 rfl (lv_room (Nat.le_of_ble_eq_true rfl)) dX0_store_22 ⟨Nat.zero_le _, Nat.zero_le _⟩) ?_
    refine W.eq (g2 := F0 m 25 ls (.int (h_sOf p1) :: [.int x3])) rfl ?_
    refine lv_topi (fun x4 ex4 => ?_)
    refine lv_iadd hx hb dX0_store_25 ?_
    refine lv_topi (fun x5 ex5 => ?_)
    refine lv_istore_n (lv' := [(3, .int x5), (2, .int x1), (0, .ref h0), (1, .int p1)]) hx hb dX0_store_26 rfl hl (by decide) rfl (fun ls hl => ?_)
    refine lv_aload_n hx hb dX0_store_27 rfl (lv_at hl 2 rfl) ?_
    refine lv_iload_n hx hb dX0_store_28 rfl (lv_at hl 0 rfl) ?_
    refine lv_iconst (v := 2) hx hb dX0_store_29 (by decide) ?_
    refine lv_iconst (v := 1) hx hb dX0_store_30 (by decide) ?_
    refine lv_iload_n hx hb dX0_store_31 rfl (lv_at hl 1 rfl) ?_
    refine lv_ishl hx hb dX0_store_32 ?_
    refine gR (As := [.int x5, .int 2, .int ((1 : Int32) <<< (x1 &&& 31))]) (rest := []) (f := h_locateAligned st x5 (2 : Int32) ((1 : Int32) <<< (x1 &&& 31))) ⟨hx, hb, hml, hown, hts⟩ (ch_locateAligned l dC dI cI h0 qme0 qre1 qco2 tN tB H.size st x5 (2 : Int32) ((1 : Int32) <<< (x1 &&& 31))) (cwV 3 hts (gV mL_0_100 mI_0_locateAligned mX_0_locateAligned mN_0 mB_0_locateAligned) rfl rfl rfl (by decide +kernel) ⟨Nat.le_of_ble_eq_true rfl, Nat.le_of_ble_eq_true rfl⟩) hK hP hD hS hZ rfl hl.1 rfl (Nat.le_of_ble_eq_true rfl) dX0_store_33 ⟨Nat.zero_le _, Nat.zero_le _⟩ ?_
    refine lv_topi (fun x6 ex6 => ?_)
    refine lv_istore (lv' := [(4, .int x6), (3, .int x5), (2, .int x1), (0, .ref h0), (1, .int p1)]) hx hb dX0_store_36 hl (by decide) rfl (fun ls hl => ?_)
    refine lv_iload hx hb dX0_store_38 (lv_at hl 0 rfl) ?_
    refine lv_if_ge (tgt := 53) hx hb dX0_store_40 (by decide) (fun c7 => ?_) (fun c7 => ?_)
    · refine lv_iload hx hb dX0_store_53 (lv_at hl 0 rfl) ?_
      refine lv_iconst (v := 3) hx hb dX0_store_55 (by decide) ?_
      refine lv_iand hx hb dX0_store_56 ?_
      refine lv_iconst (v := 3) hx hb dX0_store_57 (by decide) ?_
      refine lv_ishl hx hb dX0_store_58 ?_
      refine lv_topi (fun x8 ex8 => ?_)
      refine lv_istore (lv' := [(5, .int x8), (4, .int x6), (3, .int x5), (2, .int x1), (0, .ref h0), (1, .int p1)]) hx hb dX0_store_59 hl (by decide) rfl (fun ls hl => ?_)
      refine lv_iload_n hx hb dX0_store_61 rfl (lv_at hl 3 rfl) ?_
      refine W.callR (W.runS (As := [.int x1]) (rest := []) ⟨hx, hb, hml, hown, hts⟩ (ch_maskOf l x1) (cwS 1 hts (gS mL_0_183 mS_0_maskOf mN_0 mB_0_maskOf) rfl rfl rfl (by decide +kernel) ⟨Nat.le_of_ble_eq_true rfl, Nat.le_of_ble_eq_true rfl⟩) ⟨jblind, fun _ _ _ => ⟨rfl, trivial⟩⟩ rfl rfl hl.1 rfl (lv_room (Nat.le_of_ble_eq_true rfl)) dX0_store_62 ⟨Nat.zero_le _, Nat.zero_le _⟩) ?_
      refine W.eq (g2 := F0 m 65 ls (.int (h_maskOf x1) :: [])) rfl ?_
      refine lv_topi (fun x9 ex9 => ?_)
      refine lv_iload hx hb dX0_store_65 (lv_at hl 0 rfl) ?_
      refine lv_ishl hx hb dX0_store_67 ?_
      refine lv_topi (fun x10 ex10 => ?_)
      refine lv_istore (lv' := [(6, .int x10), (5, .int x8), (4, .int x6), (3, .int x5), (2, .int x1), (0, .ref h0), (1, .int p1)]) hx hb dX0_store_68 hl (by decide) rfl (fun ls hl => ?_)
      refine lv_aload_n hx hb dX0_store_70 rfl (lv_at hl 5 rfl) ?_
      refine va_get (D := (dC, dI)) (ci := 0) (v := .ref qme0) (C := "PagedHart") (T := TX0) (N := 6) hx hb hts mU0 hown hK hP 0 rfl rfl 0 (by decide) (hts _ mF_0_10) (fun _ h9 => h9) rfl dX0_store_71 ?_
      refine lv_iload hx hb dX0_store_74 (lv_at hl 2 rfl) ?_
      refine lv_iconst (v := 2) hx hb dX0_store_76 (by decide) ?_
      refine lv_iushr (v := jush x6 (2 : Int32)) hx hb dX0_store_77 rfl ?_
      refine lv_aload_n hx hb dX0_store_78 rfl (lv_at hl 5 rfl) ?_
      refine va_get (D := (dC, dI)) (ci := 0) (v := .ref qme0) (C := "PagedHart") (T := TX0) (N := 6) hx hb hts mU0 hown hK hP 0 rfl rfl 0 (by decide) (hts _ mF_0_10) (fun _ h9 => h9) rfl dX0_store_79 ?_
      refine lv_iload hx hb dX0_store_82 (lv_at hl 2 rfl) ?_
      refine lv_iconst (v := 2) hx hb dX0_store_84 (by decide) ?_
      refine lv_iushr (v := jush x6 (2 : Int32)) hx hb dX0_store_85 rfl ?_
      refine va_iald (D := (dC, dI)) hx hb hK hP 1 0 rfl rfl (by rw [ex6]; exact h_in2 (by rw [← ex6]; exact c7)) dX0_store_86 ?_
      refine lv_iload hx hb dX0_store_87 (lv_at hl 0 rfl) ?_
      refine lv_iconst (v := (-1)) hx hb dX0_store_89 (by decide) ?_
      refine lv_ixor hx hb dX0_store_90 ?_
      refine lv_iand hx hb dX0_store_91 ?_
      refine lv_topi (fun x11 ex11 => ?_)
      refine lv_aload_n hx hb dX0_store_92 rfl (lv_at hl 5 rfl) ?_
      refine lv_iload_n hx hb dX0_store_93 rfl (lv_at hl 6 rfl) ?_
      refine gR (As := [.int p1]) (rest := [.int x11, .int (jush x6 (2 : Int32)), .ref qme0]) (f := h_bOf st p1) ⟨hx, hb, hml, hown, hts⟩ (ch_bOf l dC dI cI h0 qme0 qre1 qco2 tN tB H.size st p1) (cwV 1 hts (gV mL_0_161 mI_0_bOf mX_0_bOf mN_0 mB_0_bOf) rfl rfl rfl (by decide +kernel) ⟨Nat.le_of_ble_eq_true rfl, Nat.le_of_ble_eq_true rfl⟩) hK hP hD hS hZ rfl hl.1 rfl (Nat.le_of_ble_eq_true rfl) dX0_store_94 ⟨Nat.zero_le _, Nat.zero_le _⟩ ?_
      refine lv_topi (fun x12 ex12 => ?_)
      refine lv_iload hx hb dX0_store_97 (lv_at hl 1 rfl) ?_
      refine lv_ishl hx hb dX0_store_99 ?_
      refine lv_iload hx hb dX0_store_100 (lv_at hl 0 rfl) ?_
      refine lv_iand hx hb dX0_store_102 ?_
      refine lv_ior hx hb dX0_store_103 ?_
      refine va_iast (D := (dC, dI)) hx hb hK hP hD hS 1 0 rfl rfl (by rw [ex6]; exact h_in2 (by rw [← ex6]; exact c7)) dX0_store_104 (fun H locs hP hD hS => ?_)
      have hP : va_P (dC, dI) vwCl (gW cI h0 qme0 qre1 qco2 (upd st.1 (jush x6 (2 : Int32)).toNatClampNeg (x11 ||| ((x12 <<< (x8 &&& 31)) &&& x10)), st.2.1, st.2.2.1, st.2.2.2.1, st.2.2.2.2.1, st.2.2.2.2.2)) H := hP
      have hD : va_D (gA h0 qme0 qre1 qco2 s.heap.size) (gW cI h0 qme0 qre1 qco2 (upd st.1 (jush x6 (2 : Int32)).toNatClampNeg (x11 ||| ((x12 <<< (x8 &&& 31)) &&& x10)), st.2.1, st.2.2.1, st.2.2.2.1, st.2.2.2.2.1, st.2.2.2.2.2)) := hD
      refine lv_aload_n hx hb dX0_store_105 rfl (lv_at hl 5 rfl) ?_
      refine gMi (As := []) (rest := []) (f := h_goOn (upd st.1 (jush x6 (2 : Int32)).toNatClampNeg (x11 ||| ((x12 <<< (x8 &&& 31)) &&& x10)), st.2.1, st.2.2.1, st.2.2.2.1, st.2.2.2.2.1, st.2.2.2.2.2)) ⟨hx, hb, hml, hown, hts⟩ (ch_goOn l dC dI cI h0 qme0 qre1 qco2 tN tB H.size (upd st.1 (jush x6 (2 : Int32)).toNatClampNeg (x11 ||| ((x12 <<< (x8 &&& 31)) &&& x10)), st.2.1, st.2.2.1, st.2.2.2.1, st.2.2.2.2.1, st.2.2.2.2.2) ) (cwV 0 hts (gV mL_0_115 mI_0_goOn mX_0_goOn mN_0 mB_0_goOn) rfl rfl rfl (by decide +kernel) ⟨Nat.le_of_ble_eq_true rfl, Nat.le_of_ble_eq_true rfl⟩) hK hP hD hS hZ rfl hl.1 rfl (Nat.le_of_ble_eq_true rfl) dX0_store_106 ⟨Nat.zero_le _, Nat.zero_le _⟩ (fun z13 ez13 H locs hP hD hS => ?_)
      have hP : va_P (dC, dI) vwCl (gW cI h0 qme0 qre1 qco2 z13.2) H := hP
      have hD : va_D (gA h0 qme0 qre1 qco2 s.heap.size) (gW cI h0 qme0 qre1 qco2 z13.2) := hD
      exact gZret (v := z13.1) (u := z13.2) hx hb hr hlocks (jnb (by rw [ez13]; exact hb_goOn (upd st.1 (jush x6 (2 : Int32)).toNatClampNeg (x11 ||| ((x12 <<< (x8 &&& 31)) &&& x10)), st.2.1, st.2.2.1, st.2.2.2.1, st.2.2.2.2.1, st.2.2.2.2.2))) (by subst ez13 ex12 ex11 ex10 ex9 ex8 ex6 ex5 ex4 ex3 ex1; exact (((if_pos c2).trans ((if_pos c7).trans rfl))).symm) hK hP hD hS dX0_store_109
    · refine lv_aload_n hx hb dX0_store_43 rfl (lv_at hl 3 rfl) ?_
      refine lv_iconst (v := (-1)) hx hb dX0_store_44 (by decide) ?_
      refine lv_iload hx hb dX0_store_45 (lv_at hl 0 rfl) ?_
      refine lv_isub hx hb dX0_store_47 ?_
      refine lv_iload_n hx hb dX0_store_48 rfl (lv_at hl 1 rfl) ?_
      refine gMi (As := [.int (((-1) : Int32) - x6), .int x5]) (rest := []) (f := h_trap st (((-1) : Int32) - x6) x5) ⟨hx, hb, hml, hown, hts⟩ (ch_trap l dC dI cI h0 qme0 qre1 qco2 tN tB H.size st (((-1) : Int32) - x6) x5) (cwV 2 hts (gV mL_0_96 mI_0_trap mX_0_trap mN_0 mB_0_trap) rfl rfl rfl (by decide +kernel) ⟨Nat.le_of_ble_eq_true rfl, Nat.le_of_ble_eq_true rfl⟩) hK hP hD hS hZ rfl hl.1 rfl (Nat.le_of_ble_eq_true rfl) dX0_store_49 ⟨Nat.zero_le _, Nat.zero_le _⟩ (fun z14 ez14 H locs hP hD hS => ?_)
      have hP : va_P (dC, dI) vwCl (gW cI h0 qme0 qre1 qco2 z14.2) H := hP
      have hD : va_D (gA h0 qme0 qre1 qco2 s.heap.size) (gW cI h0 qme0 qre1 qco2 z14.2) := hD
      exact gZret (v := z14.1) (u := z14.2) hx hb hr hlocks (jnb (by rw [ez14]; exact hb_trap st (((-1) : Int32) - x6) x5)) (by subst ez14 ex6 ex5 ex4 ex3 ex1; exact (((if_pos c2).trans ((if_neg c7).trans rfl))).symm) hK hP hD hS dX0_store_52
  · refine lv_aload_n hx hb dX0_store_10 rfl (lv_at hl 1 rfl) ?_
    refine lv_iload_n hx hb dX0_store_11 rfl (lv_at hl 2 rfl) ?_
    refine gMi (As := [.int p1]) (rest := []) (f := h_refuse st p1) ⟨hx, hb, hml, hown, hts⟩ (ch_refuse l dC dI cI h0 qme0 qre1 qco2 tN tB H.size st p1) (cwV 1 hts (gV mL_0_140 mI_0_refuse mX_0_refuse mN_0 mB_0_refuse) rfl rfl rfl (by decide +kernel) ⟨Nat.le_of_ble_eq_true rfl, Nat.le_of_ble_eq_true rfl⟩) hK hP hD hS hZ rfl hl.1 rfl (Nat.le_of_ble_eq_true rfl) dX0_store_12 ⟨Nat.zero_le _, Nat.zero_le _⟩ (fun z15 ez15 H locs hP hD hS => ?_)
    have hP : va_P (dC, dI) vwCl (gW cI h0 qme0 qre1 qco2 z15.2) H := hP
    have hD : va_D (gA h0 qme0 qre1 qco2 s.heap.size) (gW cI h0 qme0 qre1 qco2 z15.2) := hD
    exact gZret (v := z15.1) (u := z15.2) hx hb hr hlocks (jnb (by rw [ez15]; exact hb_refuse st p1)) (by subst ez15 ex1; exact (((if_neg c2).trans rfl)).symm) hK hP hD hS dX0_store_15
theorem hb_store (st : HS) (p1 : Int32) : (h_store st p1).1 = 0 ∨ (h_store st p1).1 = 1 := by
  unfold h_store
  try dsimp only
  (repeat' split) <;> first | with_reducible exact hb_trap _ _ _ | with_reducible exact hb_refuse _ _ | with_reducible exact hb_goOn _ | with_reducible exact hb_goOnWith _ _ _ | with_reducible exact hb_jump _ _ _ | with_reducible exact hb_branch _ _ | with_reducible exact hb_load _ _ | exact Or.inl rfl | exact Or.inr rfl

def h_calculateWithNumber (st : HS) (p1 : Int32) : Int32 × HS :=
  let x1 : Int32 := h_fOf p1
  let x2 : Int32 := h_gOf p1
  if x1 = (1 : Int32) then
    if x2 = 0 then
      let x11 : Int32 := h_aOf st p1
      let x12 : Int32 := h_iOf p1
      let x13 : Int32 := h_calculate x1 x11 x12
      let z14 : Int32 × HS := h_goOnWith st p1 x13
      z14
    else
      if x1 = (5 : Int32) then
        if x2 = (32 : Int32) then
          let x9 : Int32 := h_aOf st p1
          let z10 : Int32 × HS := h_goOnWith st p1 (x9 >>> (((jush p1 (20 : Int32)) &&& (31 : Int32)) &&& 31))
          z10
        else
          let z8 : Int32 × HS := h_refuse st p1
          z8
      else
        let z6 : Int32 × HS := h_refuse st p1
        z6
  else
    if x1 = (5 : Int32) then
      if x2 = 0 then
        let x27 : Int32 := h_aOf st p1
        let x28 : Int32 := h_iOf p1
        let x29 : Int32 := h_calculate x1 x27 x28
        let z30 : Int32 × HS := h_goOnWith st p1 x29
        z30
      else
        if x1 = (5 : Int32) then
          if x2 = (32 : Int32) then
            let x25 : Int32 := h_aOf st p1
            let z26 : Int32 × HS := h_goOnWith st p1 (x25 >>> (((jush p1 (20 : Int32)) &&& (31 : Int32)) &&& 31))
            z26
          else
            let z24 : Int32 × HS := h_refuse st p1
            z24
        else
          let z22 : Int32 × HS := h_refuse st p1
          z22
    else
      let x16 : Int32 := h_aOf st p1
      let x17 : Int32 := h_iOf p1
      let x18 : Int32 := h_calculate x1 x16 x17
      let z19 : Int32 × HS := h_goOnWith st p1 x18
      z19
set_option maxHeartbeats 4000000 in
set_option maxRecDepth 100000 in
theorem ch_calculateWithNumber (l : Launch) (dC : Nat → ClassId) (dI : Nat → Nat → Nat) (cI h0 qme0 qre1 qco2 tN tB : Nat) (sz : Nat) (st : HS) (p1 : Int32)  : Met l yX0_calculateWithNumber (.code yX0_calculateWithNumber cX0_calculateWithNumber 4 (some .boolean) :: gBIG) ({ frames := 2, cells := 0, slots := 0, locals := 45 }) (va_Pc [.ref h0, .int p1] (gPre dC dI cI h0 qme0 qre1 qco2 tN tB sz st)) (va_Qi (fun r v => (r, v) = h_calculateWithNumber st p1) (gB dC dI cI h0 qme0 qre1 qco2 (gA h0 qme0 qre1 qco2 sz)) (gA h0 qme0 qre1 qco2 sz)) 0 0 (gA h0 qme0 qre1 qco2 sz) := by
  refine Met.ofW (cc := cX0_calculateWithNumber) (maxL := 4) (ret := (some .boolean)) (by decide) rfl ?_
  intro p e s m args below meth c s₁ B hml hv
  obtain ⟨rfl, hsz, hP, hK, hD0, hZ⟩ := hv
  have hx := B.exec
  have hb := B.bytes
  have hr := B.returns
  have hts : ∀ w ∈ gBIG, w.before _ s = true := fun w h => atoms_spec (ws := (.code yX0_calculateWithNumber cX0_calculateWithNumber 4 (some .boolean) :: gBIG)) B.pre w (List.mem_cons_of_mem _ h)
  have hown : s.vm.findClass "PagedHart" = some m.cls := findClass_of_methodNamed B.named
  have hlocks := B.notSynchronized
  subst hsz
  have hD : va_D (gA h0 qme0 qre1 qco2 s.heap.size) (gW cI h0 qme0 qre1 qco2 st) := gD hD0
  have hS : va_S (gA h0 qme0 qre1 qco2 s.heap.size) s.heap s.heap [] := va_S.rf
  have hP : va_P (dC, dI) vwCl (gW cI h0 qme0 qre1 qco2 st) s.heap := hP
  have hl := lv_entry ([.ref h0, .int p1]) (n := 4) (Nat.le_of_ble_eq_true rfl)
  rw [lg_entry_eq]
  generalize (lg_sl ([.ref h0, .int p1]) ++ List.replicate (4 - (lg_sl ([.ref h0, .int p1])).length) Slot.unset).toArray = ls at hl ⊢
  refine jgo (P := fun H locs => va_P (dC, dI) vwCl (gW cI h0 qme0 qre1 qco2 st) H ∧ va_S (gA h0 qme0 qre1 qco2 s.heap.size) s.heap H locs) ⟨hP, hS⟩ (fun H locs hPS => ?_)
  obtain ⟨hP, hS⟩ := hPS
  have hl : lv_has ls 4 [(0, .ref h0), (1, .int p1)] := hl
  refine lv_iload_n hx hb dX0_calculateWithNumber_0 rfl (lv_at hl 1 rfl) ?_
  refine W.callR (W.runS (As := [.int p1]) (rest := []) ⟨hx, hb, hml, hown, hts⟩ (ch_fOf l p1) (cwS 1 hts (gS mL_0_131 mS_0_fOf mN_0 mB_0_fOf) rfl rfl rfl (by decide +kernel) ⟨Nat.le_of_ble_eq_true rfl, Nat.le_of_ble_eq_true rfl⟩) ⟨jblind, fun _ _ _ => ⟨rfl, trivial⟩⟩ rfl rfl hl.1 rfl (lv_room (Nat.le_of_ble_eq_true rfl)) dX0_calculateWithNumber_1 ⟨Nat.zero_le _, Nat.zero_le _⟩) ?_
  refine W.eq (g2 := F0 m 4 ls (.int (h_fOf p1) :: [])) rfl ?_
  refine lv_topi (fun x1 ex1 => ?_)
  refine lv_istore_n (lv' := [(2, .int x1), (0, .ref h0), (1, .int p1)]) hx hb dX0_calculateWithNumber_4 rfl hl (by decide) rfl (fun ls hl => ?_)
  refine lv_iload_n hx hb dX0_calculateWithNumber_5 rfl (lv_at hl 2 rfl) ?_
  refine W.callR (W.runS (As := [.int p1]) (rest := []) ⟨hx, hb, hml, hown, hts⟩ (ch_gOf l p1) (cwS 1 hts (gS mL_0_186 mS_0_gOf mN_0 mB_0_gOf) rfl rfl rfl (by decide +kernel) ⟨Nat.le_of_ble_eq_true rfl, Nat.le_of_ble_eq_true rfl⟩) ⟨jblind, fun _ _ _ => ⟨rfl, trivial⟩⟩ rfl rfl hl.1 rfl (lv_room (Nat.le_of_ble_eq_true rfl)) dX0_calculateWithNumber_6 ⟨Nat.zero_le _, Nat.zero_le _⟩) ?_
  refine W.eq (g2 := F0 m 9 ls (.int (h_gOf p1) :: [])) rfl ?_
  refine lv_topi (fun x2 ex2 => ?_)
  refine lv_istore_n (lv' := [(3, .int x2), (2, .int x1), (0, .ref h0), (1, .int p1)]) hx hb dX0_calculateWithNumber_9 rfl hl (by decide) rfl (fun ls hl => ?_)
  refine lv_iload_n hx hb dX0_calculateWithNumber_10 rfl (lv_at hl 1 rfl) ?_
  refine lv_iconst (v := 1) hx hb dX0_calculateWithNumber_11 (by decide) ?_
  refine lv_icmp_eq (tgt := 20) hx hb dX0_calculateWithNumber_12 (by decide) (fun c3 => ?_) (fun c3 => ?_)
  · refine lv_iload_n hx hb dX0_calculateWithNumber_20 rfl (lv_at hl 0 rfl) ?_
    refine lv_if_ne (tgt := 43) hx hb dX0_calculateWithNumber_21 (by decide) (fun c4 => ?_) (fun c4 => ?_)
    · refine lv_iload_n hx hb dX0_calculateWithNumber_43 rfl (lv_at hl 1 rfl) ?_
      refine lv_iconst (v := 5) hx hb dX0_calculateWithNumber_44 (by decide) ?_
      refine lv_icmp_ne (tgt := 73) hx hb dX0_calculateWithNumber_45 (by decide) (fun c5 => ?_) (fun c5 => ?_)
      · refine lv_aload_n hx hb dX0_calculateWithNumber_73 rfl (lv_at hl 2 rfl) ?_
        refine lv_iload_n hx hb dX0_calculateWithNumber_74 rfl (lv_at hl 3 rfl) ?_
        refine gMi (As := [.int p1]) (rest := []) (f := h_refuse st p1) ⟨hx, hb, hml, hown, hts⟩ (ch_refuse l dC dI cI h0 qme0 qre1 qco2 tN tB H.size st p1) (cwV 1 hts (gV mL_0_140 mI_0_refuse mX_0_refuse mN_0 mB_0_refuse) rfl rfl rfl (by decide +kernel) ⟨Nat.le_of_ble_eq_true rfl, Nat.le_of_ble_eq_true rfl⟩) hK hP hD hS hZ rfl hl.1 rfl (Nat.le_of_ble_eq_true rfl) dX0_calculateWithNumber_75 ⟨Nat.zero_le _, Nat.zero_le _⟩ (fun z6 ez6 H locs hP hD hS => ?_)
        have hP : va_P (dC, dI) vwCl (gW cI h0 qme0 qre1 qco2 z6.2) H := hP
        have hD : va_D (gA h0 qme0 qre1 qco2 s.heap.size) (gW cI h0 qme0 qre1 qco2 z6.2) := hD
        exact gZret (v := z6.1) (u := z6.2) hx hb hr hlocks (jnb (by rw [ez6]; exact hb_refuse st p1)) (by subst ez6 ex2 ex1; exact (((if_pos c3).trans ((if_neg c4).trans ((if_neg c5).trans rfl)))).symm) hK hP hD hS dX0_calculateWithNumber_78
      · refine lv_iload_n hx hb dX0_calculateWithNumber_48 rfl (lv_at hl 0 rfl) ?_
        refine lv_bipush (v := 32) hx hb dX0_calculateWithNumber_49 (by decide) ?_
        refine lv_icmp_ne (tgt := 73) hx hb dX0_calculateWithNumber_51 (by decide) (fun c7 => ?_) (fun c7 => ?_)
        · refine lv_aload_n hx hb dX0_calculateWithNumber_73 rfl (lv_at hl 2 rfl) ?_
          refine lv_iload_n hx hb dX0_calculateWithNumber_74 rfl (lv_at hl 3 rfl) ?_
          refine gMi (As := [.int p1]) (rest := []) (f := h_refuse st p1) ⟨hx, hb, hml, hown, hts⟩ (ch_refuse l dC dI cI h0 qme0 qre1 qco2 tN tB H.size st p1) (cwV 1 hts (gV mL_0_140 mI_0_refuse mX_0_refuse mN_0 mB_0_refuse) rfl rfl rfl (by decide +kernel) ⟨Nat.le_of_ble_eq_true rfl, Nat.le_of_ble_eq_true rfl⟩) hK hP hD hS hZ rfl hl.1 rfl (Nat.le_of_ble_eq_true rfl) dX0_calculateWithNumber_75 ⟨Nat.zero_le _, Nat.zero_le _⟩ (fun z8 ez8 H locs hP hD hS => ?_)
          have hP : va_P (dC, dI) vwCl (gW cI h0 qme0 qre1 qco2 z8.2) H := hP
          have hD : va_D (gA h0 qme0 qre1 qco2 s.heap.size) (gW cI h0 qme0 qre1 qco2 z8.2) := hD
          exact gZret (v := z8.1) (u := z8.2) hx hb hr hlocks (jnb (by rw [ez8]; exact hb_refuse st p1)) (by subst ez8 ex2 ex1; exact (((if_pos c3).trans ((if_neg c4).trans ((if_pos c5).trans ((if_neg c7).trans rfl))))).symm) hK hP hD hS dX0_calculateWithNumber_78
        · refine lv_aload_n hx hb dX0_calculateWithNumber_54 rfl (lv_at hl 2 rfl) ?_
          refine lv_iload_n hx hb dX0_calculateWithNumber_55 rfl (lv_at hl 3 rfl) ?_
          refine lv_aload_n hx hb dX0_calculateWithNumber_56 rfl (lv_at hl 2 rfl) ?_
          refine lv_iload_n hx hb dX0_calculateWithNumber_57 rfl (lv_at hl 3 rfl) ?_
          refine gR (As := [.int p1]) (rest := [.int p1, .ref h0]) (f := h_aOf st p1) ⟨hx, hb, hml, hown, hts⟩ (ch_aOf l dC dI cI h0 qme0 qre1 qco2 tN tB H.size st p1) (cwV 1 hts (gV mL_0_134 mI_0_aOf mX_0_aOf mN_0 mB_0_aOf) rfl rfl rfl (by decide +kernel) ⟨Nat.le_of_ble_eq_true rfl, Nat.le_of_ble_eq_true rfl⟩) hK hP hD hS hZ rfl hl.1 rfl (Nat.le_of_ble_eq_true rfl) dX0_calculateWithNumber_58 ⟨Nat.zero_le _, Nat.zero_le _⟩ ?_
          refine lv_topi (fun x9 ex9 => ?_)
          refine lv_iload_n hx hb dX0_calculateWithNumber_61 rfl (lv_at hl 3 rfl) ?_
          refine lv_bipush (v := 20) hx hb dX0_calculateWithNumber_62 (by decide) ?_
          refine lv_iushr (v := jush p1 (20 : Int32)) hx hb dX0_calculateWithNumber_64 rfl ?_
          refine lv_bipush (v := 31) hx hb dX0_calculateWithNumber_65 (by decide) ?_
          refine lv_iand hx hb dX0_calculateWithNumber_67 ?_
          refine lv_ishr hx hb dX0_calculateWithNumber_68 ?_
          refine gMi (As := [.int p1, .int (x9 >>> (((jush p1 (20 : Int32)) &&& (31 : Int32)) &&& 31))]) (rest := []) (f := h_goOnWith st p1 (x9 >>> (((jush p1 (20 : Int32)) &&& (31 : Int32)) &&& 31))) ⟨hx, hb, hml, hown, hts⟩ (ch_goOnWith l dC dI cI h0 qme0 qre1 qco2 tN tB H.size st p1 (x9 >>> (((jush p1 (20 : Int32)) &&& (31 : Int32)) &&& 31))) (cwV 2 hts (gV mL_0_122 mI_0_goOnWith mX_0_goOnWith mN_0 mB_0_goOnWith) rfl rfl rfl (by decide +kernel) ⟨Nat.le_of_ble_eq_true rfl, Nat.le_of_ble_eq_true rfl⟩) hK hP hD hS hZ rfl hl.1 rfl (Nat.le_of_ble_eq_true rfl) dX0_calculateWithNumber_69 ⟨Nat.zero_le _, Nat.zero_le _⟩ (fun z10 ez10 H locs hP hD hS => ?_)
          have hP : va_P (dC, dI) vwCl (gW cI h0 qme0 qre1 qco2 z10.2) H := hP
          have hD : va_D (gA h0 qme0 qre1 qco2 s.heap.size) (gW cI h0 qme0 qre1 qco2 z10.2) := hD
          exact gZret (v := z10.1) (u := z10.2) hx hb hr hlocks (jnb (by rw [ez10]; exact hb_goOnWith st p1 (x9 >>> (((jush p1 (20 : Int32)) &&& (31 : Int32)) &&& 31)))) (by subst ez10 ex9 ex2 ex1; exact (((if_pos c3).trans ((if_neg c4).trans ((if_pos c5).trans ((if_pos c7).trans rfl))))).symm) hK hP hD hS dX0_calculateWithNumber_72
    · refine lv_aload_n hx hb dX0_calculateWithNumber_24 rfl (lv_at hl 2 rfl) ?_
      refine lv_iload_n hx hb dX0_calculateWithNumber_25 rfl (lv_at hl 3 rfl) ?_
      refine lv_iload_n hx hb dX0_calculateWithNumber_26 rfl (lv_at hl 1 rfl) ?_
      refine lv_aload_n hx hb dX0_calculateWithNumber_27 rfl (lv_at hl 2 rfl) ?_
      refine lv_iload_n hx hb dX0_calculateWithNumber_28 rfl (lv_at hl 3 rfl) ?_
      refine gR (As := [.int p1]) (rest := [.int x1, .int p1, .ref h0]) (f := h_aOf st p1) ⟨hx, hb, hml, hown, hts⟩ (ch_aOf l dC dI cI h0 qme0 qre1 qco2 tN tB H.size st p1) (cwV 1 hts (gV mL_0_134 mI_0_aOf mX_0_aOf mN_0 mB_0_aOf) rfl rfl rfl (by decide +kernel) ⟨Nat.le_of_ble_eq_true rfl, Nat.le_of_ble_eq_true rfl⟩) hK hP hD hS hZ rfl hl.1 rfl (Nat.le_of_ble_eq_true rfl) dX0_calculateWithNumber_29 ⟨Nat.zero_le _, Nat.zero_le _⟩ ?_
      refine lv_topi (fun x11 ex11 => ?_)
      refine lv_iload_n hx hb dX0_calculateWithNumber_32 rfl (lv_at hl 3 rfl) ?_
      refine W.callR (W.runS (As := [.int p1]) (rest := [.int x11, .int x1, .int p1, .ref h0]) ⟨hx, hb, hml, hown, hts⟩ (ch_iOf l p1) (cwS 1 hts (gS mL_0_137 mS_0_iOf mN_0 mB_0_iOf) rfl rfl rfl (by decide +kernel) ⟨Nat.le_of_ble_eq_true rfl, Nat.le_of_ble_eq_true rfl⟩) ⟨jblind, fun _ _ _ => ⟨rfl, trivial⟩⟩ rfl rfl hl.1 rfl (lv_room (Nat.le_of_ble_eq_true rfl)) dX0_calculateWithNumber_33 ⟨Nat.zero_le _, Nat.zero_le _⟩) ?_
      refine W.eq (g2 := F0 m 36 ls (.int (h_iOf p1) :: [.int x11, .int x1, .int p1, .ref h0])) rfl ?_
      refine lv_topi (fun x12 ex12 => ?_)
      refine W.callR (W.runS (As := [.int x1, .int x11, .int x12]) (rest := [.int p1, .ref h0]) ⟨hx, hb, hml, hown, hts⟩ (ch_calculate l x1 x11 x12) (cwS 3 hts (gS mL_0_189 mS_0_calculate mN_0 mB_0_calculate) rfl rfl rfl (by decide +kernel) ⟨Nat.le_of_ble_eq_true rfl, Nat.le_of_ble_eq_true rfl⟩) ⟨jblind, fun _ _ _ => ⟨rfl, trivial⟩⟩ rfl rfl hl.1 rfl (lv_room (Nat.le_of_ble_eq_true rfl)) dX0_calculateWithNumber_36 ⟨Nat.zero_le _, Nat.zero_le _⟩) ?_
      refine W.eq (g2 := F0 m 39 ls (.int (h_calculate x1 x11 x12) :: [.int p1, .ref h0])) rfl ?_
      refine lv_topi (fun x13 ex13 => ?_)
      refine gMi (As := [.int p1, .int x13]) (rest := []) (f := h_goOnWith st p1 x13) ⟨hx, hb, hml, hown, hts⟩ (ch_goOnWith l dC dI cI h0 qme0 qre1 qco2 tN tB H.size st p1 x13) (cwV 2 hts (gV mL_0_122 mI_0_goOnWith mX_0_goOnWith mN_0 mB_0_goOnWith) rfl rfl rfl (by decide +kernel) ⟨Nat.le_of_ble_eq_true rfl, Nat.le_of_ble_eq_true rfl⟩) hK hP hD hS hZ rfl hl.1 rfl (Nat.le_of_ble_eq_true rfl) dX0_calculateWithNumber_39 ⟨Nat.zero_le _, Nat.zero_le _⟩ (fun z14 ez14 H locs hP hD hS => ?_)
      have hP : va_P (dC, dI) vwCl (gW cI h0 qme0 qre1 qco2 z14.2) H := hP
      have hD : va_D (gA h0 qme0 qre1 qco2 s.heap.size) (gW cI h0 qme0 qre1 qco2 z14.2) := hD
      exact gZret (v := z14.1) (u := z14.2) hx hb hr hlocks (jnb (by rw [ez14]; exact hb_goOnWith st p1 x13)) (by subst ez14 ex13 ex12 ex11 ex2 ex1; exact (((if_pos c3).trans ((if_pos c4).trans rfl))).symm) hK hP hD hS dX0_calculateWithNumber_42
  · refine lv_iload_n hx hb dX0_calculateWithNumber_15 rfl (lv_at hl 1 rfl) ?_
    refine lv_iconst (v := 5) hx hb dX0_calculateWithNumber_16 (by decide) ?_
    refine lv_icmp_ne (tgt := 24) hx hb dX0_calculateWithNumber_17 (by decide) (fun c15 => ?_) (fun c15 => ?_)
    · refine lv_aload_n hx hb dX0_calculateWithNumber_24 rfl (lv_at hl 2 rfl) ?_
      refine lv_iload_n hx hb dX0_calculateWithNumber_25 rfl (lv_at hl 3 rfl) ?_
      refine lv_iload_n hx hb dX0_calculateWithNumber_26 rfl (lv_at hl 1 rfl) ?_
      refine lv_aload_n hx hb dX0_calculateWithNumber_27 rfl (lv_at hl 2 rfl) ?_
      refine lv_iload_n hx hb dX0_calculateWithNumber_28 rfl (lv_at hl 3 rfl) ?_
      refine gR (As := [.int p1]) (rest := [.int x1, .int p1, .ref h0]) (f := h_aOf st p1) ⟨hx, hb, hml, hown, hts⟩ (ch_aOf l dC dI cI h0 qme0 qre1 qco2 tN tB H.size st p1) (cwV 1 hts (gV mL_0_134 mI_0_aOf mX_0_aOf mN_0 mB_0_aOf) rfl rfl rfl (by decide +kernel) ⟨Nat.le_of_ble_eq_true rfl, Nat.le_of_ble_eq_true rfl⟩) hK hP hD hS hZ rfl hl.1 rfl (Nat.le_of_ble_eq_true rfl) dX0_calculateWithNumber_29 ⟨Nat.zero_le _, Nat.zero_le _⟩ ?_
      refine lv_topi (fun x16 ex16 => ?_)
      refine lv_iload_n hx hb dX0_calculateWithNumber_32 rfl (lv_at hl 3 rfl) ?_
      refine W.callR (W.runS (As := [.int p1]) (rest := [.int x16, .int x1, .int p1, .ref h0]) ⟨hx, hb, hml, hown, hts⟩ (ch_iOf l p1) (cwS 1 hts (gS mL_0_137 mS_0_iOf mN_0 mB_0_iOf) rfl rfl rfl (by decide +kernel) ⟨Nat.le_of_ble_eq_true rfl, Nat.le_of_ble_eq_true rfl⟩) ⟨jblind, fun _ _ _ => ⟨rfl, trivial⟩⟩ rfl rfl hl.1 rfl (lv_room (Nat.le_of_ble_eq_true rfl)) dX0_calculateWithNumber_33 ⟨Nat.zero_le _, Nat.zero_le _⟩) ?_
      refine W.eq (g2 := F0 m 36 ls (.int (h_iOf p1) :: [.int x16, .int x1, .int p1, .ref h0])) rfl ?_
      refine lv_topi (fun x17 ex17 => ?_)
      refine W.callR (W.runS (As := [.int x1, .int x16, .int x17]) (rest := [.int p1, .ref h0]) ⟨hx, hb, hml, hown, hts⟩ (ch_calculate l x1 x16 x17) (cwS 3 hts (gS mL_0_189 mS_0_calculate mN_0 mB_0_calculate) rfl rfl rfl (by decide +kernel) ⟨Nat.le_of_ble_eq_true rfl, Nat.le_of_ble_eq_true rfl⟩) ⟨jblind, fun _ _ _ => ⟨rfl, trivial⟩⟩ rfl rfl hl.1 rfl (lv_room (Nat.le_of_ble_eq_true rfl)) dX0_calculateWithNumber_36 ⟨Nat.zero_le _, Nat.zero_le _⟩) ?_
      refine W.eq (g2 := F0 m 39 ls (.int (h_calculate x1 x16 x17) :: [.int p1, .ref h0])) rfl ?_
      refine lv_topi (fun x18 ex18 => ?_)
      refine gMi (As := [.int p1, .int x18]) (rest := []) (f := h_goOnWith st p1 x18) ⟨hx, hb, hml, hown, hts⟩ (ch_goOnWith l dC dI cI h0 qme0 qre1 qco2 tN tB H.size st p1 x18) (cwV 2 hts (gV mL_0_122 mI_0_goOnWith mX_0_goOnWith mN_0 mB_0_goOnWith) rfl rfl rfl (by decide +kernel) ⟨Nat.le_of_ble_eq_true rfl, Nat.le_of_ble_eq_true rfl⟩) hK hP hD hS hZ rfl hl.1 rfl (Nat.le_of_ble_eq_true rfl) dX0_calculateWithNumber_39 ⟨Nat.zero_le _, Nat.zero_le _⟩ (fun z19 ez19 H locs hP hD hS => ?_)
      have hP : va_P (dC, dI) vwCl (gW cI h0 qme0 qre1 qco2 z19.2) H := hP
      have hD : va_D (gA h0 qme0 qre1 qco2 s.heap.size) (gW cI h0 qme0 qre1 qco2 z19.2) := hD
      exact gZret (v := z19.1) (u := z19.2) hx hb hr hlocks (jnb (by rw [ez19]; exact hb_goOnWith st p1 x18)) (by subst ez19 ex18 ex17 ex16 ex2 ex1; exact (((if_neg c3).trans ((if_neg c15).trans rfl))).symm) hK hP hD hS dX0_calculateWithNumber_42
    · refine lv_iload_n hx hb dX0_calculateWithNumber_20 rfl (lv_at hl 0 rfl) ?_
      refine lv_if_ne (tgt := 43) hx hb dX0_calculateWithNumber_21 (by decide) (fun c20 => ?_) (fun c20 => ?_)
      · refine lv_iload_n hx hb dX0_calculateWithNumber_43 rfl (lv_at hl 1 rfl) ?_
        refine lv_iconst (v := 5) hx hb dX0_calculateWithNumber_44 (by decide) ?_
        refine lv_icmp_ne (tgt := 73) hx hb dX0_calculateWithNumber_45 (by decide) (fun c21 => ?_) (fun c21 => ?_)
        · refine lv_aload_n hx hb dX0_calculateWithNumber_73 rfl (lv_at hl 2 rfl) ?_
          refine lv_iload_n hx hb dX0_calculateWithNumber_74 rfl (lv_at hl 3 rfl) ?_
          refine gMi (As := [.int p1]) (rest := []) (f := h_refuse st p1) ⟨hx, hb, hml, hown, hts⟩ (ch_refuse l dC dI cI h0 qme0 qre1 qco2 tN tB H.size st p1) (cwV 1 hts (gV mL_0_140 mI_0_refuse mX_0_refuse mN_0 mB_0_refuse) rfl rfl rfl (by decide +kernel) ⟨Nat.le_of_ble_eq_true rfl, Nat.le_of_ble_eq_true rfl⟩) hK hP hD hS hZ rfl hl.1 rfl (Nat.le_of_ble_eq_true rfl) dX0_calculateWithNumber_75 ⟨Nat.zero_le _, Nat.zero_le _⟩ (fun z22 ez22 H locs hP hD hS => ?_)
          have hP : va_P (dC, dI) vwCl (gW cI h0 qme0 qre1 qco2 z22.2) H := hP
          have hD : va_D (gA h0 qme0 qre1 qco2 s.heap.size) (gW cI h0 qme0 qre1 qco2 z22.2) := hD
          exact gZret (v := z22.1) (u := z22.2) hx hb hr hlocks (jnb (by rw [ez22]; exact hb_refuse st p1)) (by subst ez22 ex2 ex1; exact (((if_neg c3).trans ((if_pos c15).trans ((if_neg c20).trans ((if_neg c21).trans rfl))))).symm) hK hP hD hS dX0_calculateWithNumber_78
        · refine lv_iload_n hx hb dX0_calculateWithNumber_48 rfl (lv_at hl 0 rfl) ?_
          refine lv_bipush (v := 32) hx hb dX0_calculateWithNumber_49 (by decide) ?_
          refine lv_icmp_ne (tgt := 73) hx hb dX0_calculateWithNumber_51 (by decide) (fun c23 => ?_) (fun c23 => ?_)
          · refine lv_aload_n hx hb dX0_calculateWithNumber_73 rfl (lv_at hl 2 rfl) ?_
            refine lv_iload_n hx hb dX0_calculateWithNumber_74 rfl (lv_at hl 3 rfl) ?_
            refine gMi (As := [.int p1]) (rest := []) (f := h_refuse st p1) ⟨hx, hb, hml, hown, hts⟩ (ch_refuse l dC dI cI h0 qme0 qre1 qco2 tN tB H.size st p1) (cwV 1 hts (gV mL_0_140 mI_0_refuse mX_0_refuse mN_0 mB_0_refuse) rfl rfl rfl (by decide +kernel) ⟨Nat.le_of_ble_eq_true rfl, Nat.le_of_ble_eq_true rfl⟩) hK hP hD hS hZ rfl hl.1 rfl (Nat.le_of_ble_eq_true rfl) dX0_calculateWithNumber_75 ⟨Nat.zero_le _, Nat.zero_le _⟩ (fun z24 ez24 H locs hP hD hS => ?_)
            have hP : va_P (dC, dI) vwCl (gW cI h0 qme0 qre1 qco2 z24.2) H := hP
            have hD : va_D (gA h0 qme0 qre1 qco2 s.heap.size) (gW cI h0 qme0 qre1 qco2 z24.2) := hD
            exact gZret (v := z24.1) (u := z24.2) hx hb hr hlocks (jnb (by rw [ez24]; exact hb_refuse st p1)) (by subst ez24 ex2 ex1; exact (((if_neg c3).trans ((if_pos c15).trans ((if_neg c20).trans ((if_pos c21).trans ((if_neg c23).trans rfl)))))).symm) hK hP hD hS dX0_calculateWithNumber_78
          · refine lv_aload_n hx hb dX0_calculateWithNumber_54 rfl (lv_at hl 2 rfl) ?_
            refine lv_iload_n hx hb dX0_calculateWithNumber_55 rfl (lv_at hl 3 rfl) ?_
            refine lv_aload_n hx hb dX0_calculateWithNumber_56 rfl (lv_at hl 2 rfl) ?_
            refine lv_iload_n hx hb dX0_calculateWithNumber_57 rfl (lv_at hl 3 rfl) ?_
            refine gR (As := [.int p1]) (rest := [.int p1, .ref h0]) (f := h_aOf st p1) ⟨hx, hb, hml, hown, hts⟩ (ch_aOf l dC dI cI h0 qme0 qre1 qco2 tN tB H.size st p1) (cwV 1 hts (gV mL_0_134 mI_0_aOf mX_0_aOf mN_0 mB_0_aOf) rfl rfl rfl (by decide +kernel) ⟨Nat.le_of_ble_eq_true rfl, Nat.le_of_ble_eq_true rfl⟩) hK hP hD hS hZ rfl hl.1 rfl (Nat.le_of_ble_eq_true rfl) dX0_calculateWithNumber_58 ⟨Nat.zero_le _, Nat.zero_le _⟩ ?_
            refine lv_topi (fun x25 ex25 => ?_)
            refine lv_iload_n hx hb dX0_calculateWithNumber_61 rfl (lv_at hl 3 rfl) ?_
            refine lv_bipush (v := 20) hx hb dX0_calculateWithNumber_62 (by decide) ?_
            refine lv_iushr (v := jush p1 (20 : Int32)) hx hb dX0_calculateWithNumber_64 rfl ?_
            refine lv_bipush (v := 31) hx hb dX0_calculateWithNumber_65 (by decide) ?_
            refine lv_iand hx hb dX0_calculateWithNumber_67 ?_
            refine lv_ishr hx hb dX0_calculateWithNumber_68 ?_
            refine gMi (As := [.int p1, .int (x25 >>> (((jush p1 (20 : Int32)) &&& (31 : Int32)) &&& 31))]) (rest := []) (f := h_goOnWith st p1 (x25 >>> (((jush p1 (20 : Int32)) &&& (31 : Int32)) &&& 31))) ⟨hx, hb, hml, hown, hts⟩ (ch_goOnWith l dC dI cI h0 qme0 qre1 qco2 tN tB H.size st p1 (x25 >>> (((jush p1 (20 : Int32)) &&& (31 : Int32)) &&& 31))) (cwV 2 hts (gV mL_0_122 mI_0_goOnWith mX_0_goOnWith mN_0 mB_0_goOnWith) rfl rfl rfl (by decide +kernel) ⟨Nat.le_of_ble_eq_true rfl, Nat.le_of_ble_eq_true rfl⟩) hK hP hD hS hZ rfl hl.1 rfl (Nat.le_of_ble_eq_true rfl) dX0_calculateWithNumber_69 ⟨Nat.zero_le _, Nat.zero_le _⟩ (fun z26 ez26 H locs hP hD hS => ?_)
            have hP : va_P (dC, dI) vwCl (gW cI h0 qme0 qre1 qco2 z26.2) H := hP
            have hD : va_D (gA h0 qme0 qre1 qco2 s.heap.size) (gW cI h0 qme0 qre1 qco2 z26.2) := hD
            exact gZret (v := z26.1) (u := z26.2) hx hb hr hlocks (jnb (by rw [ez26]; exact hb_goOnWith st p1 (x25 >>> (((jush p1 (20 : Int32)) &&& (31 : Int32)) &&& 31)))) (by subst ez26 ex25 ex2 ex1; exact (((if_neg c3).trans ((if_pos c15).trans ((if_neg c20).trans ((if_pos c21).trans ((if_pos c23).trans rfl)))))).symm) hK hP hD hS dX0_calculateWithNumber_72
      · refine lv_aload_n hx hb dX0_calculateWithNumber_24 rfl (lv_at hl 2 rfl) ?_
        refine lv_iload_n hx hb dX0_calculateWithNumber_25 rfl (lv_at hl 3 rfl) ?_
        refine lv_iload_n hx hb dX0_calculateWithNumber_26 rfl (lv_at hl 1 rfl) ?_
        refine lv_aload_n hx hb dX0_calculateWithNumber_27 rfl (lv_at hl 2 rfl) ?_
        refine lv_iload_n hx hb dX0_calculateWithNumber_28 rfl (lv_at hl 3 rfl) ?_
        refine gR (As := [.int p1]) (rest := [.int x1, .int p1, .ref h0]) (f := h_aOf st p1) ⟨hx, hb, hml, hown, hts⟩ (ch_aOf l dC dI cI h0 qme0 qre1 qco2 tN tB H.size st p1) (cwV 1 hts (gV mL_0_134 mI_0_aOf mX_0_aOf mN_0 mB_0_aOf) rfl rfl rfl (by decide +kernel) ⟨Nat.le_of_ble_eq_true rfl, Nat.le_of_ble_eq_true rfl⟩) hK hP hD hS hZ rfl hl.1 rfl (Nat.le_of_ble_eq_true rfl) dX0_calculateWithNumber_29 ⟨Nat.zero_le _, Nat.zero_le _⟩ ?_
        refine lv_topi (fun x27 ex27 => ?_)
        refine lv_iload_n hx hb dX0_calculateWithNumber_32 rfl (lv_at hl 3 rfl) ?_
        refine W.callR (W.runS (As := [.int p1]) (rest := [.int x27, .int x1, .int p1, .ref h0]) ⟨hx, hb, hml, hown, hts⟩ (ch_iOf l p1) (cwS 1 hts (gS mL_0_137 mS_0_iOf mN_0 mB_0_iOf) rfl rfl rfl (by decide +kernel) ⟨Nat.le_of_ble_eq_true rfl, Nat.le_of_ble_eq_true rfl⟩) ⟨jblind, fun _ _ _ => ⟨rfl, trivial⟩⟩ rfl rfl hl.1 rfl (lv_room (Nat.le_of_ble_eq_true rfl)) dX0_calculateWithNumber_33 ⟨Nat.zero_le _, Nat.zero_le _⟩) ?_
        refine W.eq (g2 := F0 m 36 ls (.int (h_iOf p1) :: [.int x27, .int x1, .int p1, .ref h0])) rfl ?_
        refine lv_topi (fun x28 ex28 => ?_)
        refine W.callR (W.runS (As := [.int x1, .int x27, .int x28]) (rest := [.int p1, .ref h0]) ⟨hx, hb, hml, hown, hts⟩ (ch_calculate l x1 x27 x28) (cwS 3 hts (gS mL_0_189 mS_0_calculate mN_0 mB_0_calculate) rfl rfl rfl (by decide +kernel) ⟨Nat.le_of_ble_eq_true rfl, Nat.le_of_ble_eq_true rfl⟩) ⟨jblind, fun _ _ _ => ⟨rfl, trivial⟩⟩ rfl rfl hl.1 rfl (lv_room (Nat.le_of_ble_eq_true rfl)) dX0_calculateWithNumber_36 ⟨Nat.zero_le _, Nat.zero_le _⟩) ?_
        refine W.eq (g2 := F0 m 39 ls (.int (h_calculate x1 x27 x28) :: [.int p1, .ref h0])) rfl ?_
        refine lv_topi (fun x29 ex29 => ?_)
        refine gMi (As := [.int p1, .int x29]) (rest := []) (f := h_goOnWith st p1 x29) ⟨hx, hb, hml, hown, hts⟩ (ch_goOnWith l dC dI cI h0 qme0 qre1 qco2 tN tB H.size st p1 x29) (cwV 2 hts (gV mL_0_122 mI_0_goOnWith mX_0_goOnWith mN_0 mB_0_goOnWith) rfl rfl rfl (by decide +kernel) ⟨Nat.le_of_ble_eq_true rfl, Nat.le_of_ble_eq_true rfl⟩) hK hP hD hS hZ rfl hl.1 rfl (Nat.le_of_ble_eq_true rfl) dX0_calculateWithNumber_39 ⟨Nat.zero_le _, Nat.zero_le _⟩ (fun z30 ez30 H locs hP hD hS => ?_)
        have hP : va_P (dC, dI) vwCl (gW cI h0 qme0 qre1 qco2 z30.2) H := hP
        have hD : va_D (gA h0 qme0 qre1 qco2 s.heap.size) (gW cI h0 qme0 qre1 qco2 z30.2) := hD
        exact gZret (v := z30.1) (u := z30.2) hx hb hr hlocks (jnb (by rw [ez30]; exact hb_goOnWith st p1 x29)) (by subst ez30 ex29 ex28 ex27 ex2 ex1; exact (((if_neg c3).trans ((if_pos c15).trans ((if_pos c20).trans rfl)))).symm) hK hP hD hS dX0_calculateWithNumber_42
theorem hb_calculateWithNumber (st : HS) (p1 : Int32) : (h_calculateWithNumber st p1).1 = 0 ∨ (h_calculateWithNumber st p1).1 = 1 := by
  unfold h_calculateWithNumber
  try dsimp only
  (repeat' split) <;> first | with_reducible exact hb_trap _ _ _ | with_reducible exact hb_refuse _ _ | with_reducible exact hb_goOn _ | with_reducible exact hb_goOnWith _ _ _ | with_reducible exact hb_jump _ _ _ | with_reducible exact hb_branch _ _ | with_reducible exact hb_load _ _ | with_reducible exact hb_store _ _ | exact Or.inl rfl | exact Or.inr rfl

def h_calculateWithRegister (st : HS) (p1 : Int32) : Int32 × HS :=
  let x1 : Int32 := h_fOf p1
  let x2 : Int32 := h_gOf p1
  let x3 : Int32 := h_aOf st p1
  let x4 : Int32 := h_bOf st p1
  if x2 = 0 then
    let x25 : Int32 := h_calculate x1 x3 x4
    let z26 : Int32 × HS := h_goOnWith st p1 x25
    z26
  else
    if x2 = (1 : Int32) then
      if (4 : Int32) ≤ x1 then
        let x21 : Int32 := h_divide x1 x3 x4
        let z22 : Int32 × HS := h_goOnWith st p1 x21
        z22
      else
        let x23 : Int32 := h_multiply x1 x3 x4
        let z24 : Int32 × HS := h_goOnWith st p1 x23
        z24
    else
      if x2 = (32 : Int32) then
        if x1 = 0 then
          let z19 : Int32 × HS := h_goOnWith st p1 (x3 - x4)
          z19
        else
          if x2 = (32 : Int32) then
            if x1 = (5 : Int32) then
              let z18 : Int32 × HS := h_goOnWith st p1 (x3 >>> ((x4 &&& (31 : Int32)) &&& 31))
              z18
            else
              let z17 : Int32 × HS := h_refuse st p1
              z17
          else
            let z15 : Int32 × HS := h_refuse st p1
            z15
      else
        if x2 = (32 : Int32) then
          if x1 = (5 : Int32) then
            let z12 : Int32 × HS := h_goOnWith st p1 (x3 >>> ((x4 &&& (31 : Int32)) &&& 31))
            z12
          else
            let z11 : Int32 × HS := h_refuse st p1
            z11
        else
          let z9 : Int32 × HS := h_refuse st p1
          z9
set_option maxHeartbeats 4000000 in
set_option maxRecDepth 100000 in
theorem ch_calculateWithRegister (l : Launch) (dC : Nat → ClassId) (dI : Nat → Nat → Nat) (cI h0 qme0 qre1 qco2 tN tB : Nat) (sz : Nat) (st : HS) (p1 : Int32)  : Met l yX0_calculateWithRegister (.code yX0_calculateWithRegister cX0_calculateWithRegister 6 (some .boolean) :: gBIG) ({ frames := 2, cells := 0, slots := 0, locals := 45 }) (va_Pc [.ref h0, .int p1] (gPre dC dI cI h0 qme0 qre1 qco2 tN tB sz st)) (va_Qi (fun r v => (r, v) = h_calculateWithRegister st p1) (gB dC dI cI h0 qme0 qre1 qco2 (gA h0 qme0 qre1 qco2 sz)) (gA h0 qme0 qre1 qco2 sz)) 0 0 (gA h0 qme0 qre1 qco2 sz) := by
  refine Met.ofW (cc := cX0_calculateWithRegister) (maxL := 6) (ret := (some .boolean)) (by decide) rfl ?_
  intro p e s m args below meth c s₁ B hml hv
  obtain ⟨rfl, hsz, hP, hK, hD0, hZ⟩ := hv
  have hx := B.exec
  have hb := B.bytes
  have hr := B.returns
  have hts : ∀ w ∈ gBIG, w.before _ s = true := fun w h => atoms_spec (ws := (.code yX0_calculateWithRegister cX0_calculateWithRegister 6 (some .boolean) :: gBIG)) B.pre w (List.mem_cons_of_mem _ h)
  have hown : s.vm.findClass "PagedHart" = some m.cls := findClass_of_methodNamed B.named
  have hlocks := B.notSynchronized
  subst hsz
  have hD : va_D (gA h0 qme0 qre1 qco2 s.heap.size) (gW cI h0 qme0 qre1 qco2 st) := gD hD0
  have hS : va_S (gA h0 qme0 qre1 qco2 s.heap.size) s.heap s.heap [] := va_S.rf
  have hP : va_P (dC, dI) vwCl (gW cI h0 qme0 qre1 qco2 st) s.heap := hP
  have hl := lv_entry ([.ref h0, .int p1]) (n := 6) (Nat.le_of_ble_eq_true rfl)
  rw [lg_entry_eq]
  generalize (lg_sl ([.ref h0, .int p1]) ++ List.replicate (6 - (lg_sl ([.ref h0, .int p1])).length) Slot.unset).toArray = ls at hl ⊢
  refine jgo (P := fun H locs => va_P (dC, dI) vwCl (gW cI h0 qme0 qre1 qco2 st) H ∧ va_S (gA h0 qme0 qre1 qco2 s.heap.size) s.heap H locs) ⟨hP, hS⟩ (fun H locs hPS => ?_)
  obtain ⟨hP, hS⟩ := hPS
  have hl : lv_has ls 6 [(0, .ref h0), (1, .int p1)] := hl
  refine lv_iload_n hx hb dX0_calculateWithRegister_0 rfl (lv_at hl 1 rfl) ?_
  refine W.callR (W.runS (As := [.int p1]) (rest := []) ⟨hx, hb, hml, hown, hts⟩ (ch_fOf l p1) (cwS 1 hts (gS mL_0_131 mS_0_fOf mN_0 mB_0_fOf) rfl rfl rfl (by decide +kernel) ⟨Nat.le_of_ble_eq_true rfl, Nat.le_of_ble_eq_true rfl⟩) ⟨jblind, fun _ _ _ => ⟨rfl, trivial⟩⟩ rfl rfl hl.1 rfl (lv_room (Nat.le_of_ble_eq_true rfl)) dX0_calculateWithRegister_1 ⟨Nat.zero_le _, Nat.zero_le _⟩) ?_
  refine W.eq (g2 := F0 m 4 ls (.int (h_fOf p1) :: [])) rfl ?_
  refine lv_topi (fun x1 ex1 => ?_)
  refine lv_istore_n (lv' := [(2, .int x1), (0, .ref h0), (1, .int p1)]) hx hb dX0_calculateWithRegister_4 rfl hl (by decide) rfl (fun ls hl => ?_)
  refine lv_iload_n hx hb dX0_calculateWithRegister_5 rfl (lv_at hl 2 rfl) ?_
  refine W.callR (W.runS (As := [.int p1]) (rest := []) ⟨hx, hb, hml, hown, hts⟩ (ch_gOf l p1) (cwS 1 hts (gS mL_0_186 mS_0_gOf mN_0 mB_0_gOf) rfl rfl rfl (by decide +kernel) ⟨Nat.le_of_ble_eq_true rfl, Nat.le_of_ble_eq_true rfl⟩) ⟨jblind, fun _ _ _ => ⟨rfl, trivial⟩⟩ rfl rfl hl.1 rfl (lv_room (Nat.le_of_ble_eq_true rfl)) dX0_calculateWithRegister_6 ⟨Nat.zero_le _, Nat.zero_le _⟩) ?_
  refine W.eq (g2 := F0 m 9 ls (.int (h_gOf p1) :: [])) rfl ?_
  refine lv_topi (fun x2 ex2 => ?_)
  refine lv_istore_n (lv' := [(3, .int x2), (2, .int x1), (0, .ref h0), (1, .int p1)]) hx hb dX0_calculateWithRegister_9 rfl hl (by decide) rfl (fun ls hl => ?_)
  refine lv_aload_n hx hb dX0_calculateWithRegister_10 rfl (lv_at hl 2 rfl) ?_
  refine lv_iload_n hx hb dX0_calculateWithRegister_11 rfl (lv_at hl 3 rfl) ?_
  refine gR (As := [.int p1]) (rest := []) (f := h_aOf st p1) ⟨hx, hb, hml, hown, hts⟩ (ch_aOf l dC dI cI h0 qme0 qre1 qco2 tN tB H.size st p1) (cwV 1 hts (gV mL_0_134 mI_0_aOf mX_0_aOf mN_0 mB_0_aOf) rfl rfl rfl (by decide +kernel) ⟨Nat.le_of_ble_eq_true rfl, Nat.le_of_ble_eq_true rfl⟩) hK hP hD hS hZ rfl hl.1 rfl (Nat.le_of_ble_eq_true rfl) dX0_calculateWithRegister_12 ⟨Nat.zero_le _, Nat.zero_le _⟩ ?_
  refine lv_topi (fun x3 ex3 => ?_)
  refine lv_istore (lv' := [(4, .int x3), (3, .int x2), (2, .int x1), (0, .ref h0), (1, .int p1)]) hx hb dX0_calculateWithRegister_15 hl (by decide) rfl (fun ls hl => ?_)
  refine lv_aload_n hx hb dX0_calculateWithRegister_17 rfl (lv_at hl 3 rfl) ?_
  refine lv_iload_n hx hb dX0_calculateWithRegister_18 rfl (lv_at hl 4 rfl) ?_
  refine gR (As := [.int p1]) (rest := []) (f := h_bOf st p1) ⟨hx, hb, hml, hown, hts⟩ (ch_bOf l dC dI cI h0 qme0 qre1 qco2 tN tB H.size st p1) (cwV 1 hts (gV mL_0_161 mI_0_bOf mX_0_bOf mN_0 mB_0_bOf) rfl rfl rfl (by decide +kernel) ⟨Nat.le_of_ble_eq_true rfl, Nat.le_of_ble_eq_true rfl⟩) hK hP hD hS hZ rfl hl.1 rfl (Nat.le_of_ble_eq_true rfl) dX0_calculateWithRegister_19 ⟨Nat.zero_le _, Nat.zero_le _⟩ ?_
  refine lv_topi (fun x4 ex4 => ?_)
  refine lv_istore (lv' := [(5, .int x4), (4, .int x3), (3, .int x2), (2, .int x1), (0, .ref h0), (1, .int p1)]) hx hb dX0_calculateWithRegister_22 hl (by decide) rfl (fun ls hl => ?_)
  refine lv_iload_n hx hb dX0_calculateWithRegister_24 rfl (lv_at hl 2 rfl) ?_
  refine lv_if_ne (tgt := 42) hx hb dX0_calculateWithRegister_25 (by decide) (fun c5 => ?_) (fun c5 => ?_)
  · refine lv_iload_n hx hb dX0_calculateWithRegister_42 rfl (lv_at hl 2 rfl) ?_
    refine lv_iconst (v := 1) hx hb dX0_calculateWithRegister_43 (by decide) ?_
    refine lv_icmp_ne (tgt := 77) hx hb dX0_calculateWithRegister_44 (by decide) (fun c6 => ?_) (fun c6 => ?_)
    · refine lv_iload_n hx hb dX0_calculateWithRegister_77 rfl (lv_at hl 2 rfl) ?_
      refine lv_bipush (v := 32) hx hb dX0_calculateWithRegister_78 (by decide) ?_
      refine lv_icmp_ne (tgt := 98) hx hb dX0_calculateWithRegister_80 (by decide) (fun c7 => ?_) (fun c7 => ?_)
      · refine lv_iload_n hx hb dX0_calculateWithRegister_98 rfl (lv_at hl 2 rfl) ?_
        refine lv_bipush (v := 32) hx hb dX0_calculateWithRegister_99 (by decide) ?_
        refine lv_icmp_ne (tgt := 123) hx hb dX0_calculateWithRegister_101 (by decide) (fun c8 => ?_) (fun c8 => ?_)
        · refine lv_aload_n hx hb dX0_calculateWithRegister_123 rfl (lv_at hl 4 rfl) ?_
          refine lv_iload_n hx hb dX0_calculateWithRegister_124 rfl (lv_at hl 5 rfl) ?_
          refine gMi (As := [.int p1]) (rest := []) (f := h_refuse st p1) ⟨hx, hb, hml, hown, hts⟩ (ch_refuse l dC dI cI h0 qme0 qre1 qco2 tN tB H.size st p1) (cwV 1 hts (gV mL_0_140 mI_0_refuse mX_0_refuse mN_0 mB_0_refuse) rfl rfl rfl (by decide +kernel) ⟨Nat.le_of_ble_eq_true rfl, Nat.le_of_ble_eq_true rfl⟩) hK hP hD hS hZ rfl hl.1 rfl (Nat.le_of_ble_eq_true rfl) dX0_calculateWithRegister_125 ⟨Nat.zero_le _, Nat.zero_le _⟩ (fun z9 ez9 H locs hP hD hS => ?_)
          have hP : va_P (dC, dI) vwCl (gW cI h0 qme0 qre1 qco2 z9.2) H := hP
          have hD : va_D (gA h0 qme0 qre1 qco2 s.heap.size) (gW cI h0 qme0 qre1 qco2 z9.2) := hD
          exact gZret (v := z9.1) (u := z9.2) hx hb hr hlocks (jnb (by rw [ez9]; exact hb_refuse st p1)) (by subst ez9 ex4 ex3 ex2 ex1; exact (((if_neg c5).trans ((if_neg c6).trans ((if_neg c7).trans ((if_neg c8).trans rfl))))).symm) hK hP hD hS dX0_calculateWithRegister_128
        · refine lv_iload_n hx hb dX0_calculateWithRegister_104 rfl (lv_at hl 3 rfl) ?_
          refine lv_iconst (v := 5) hx hb dX0_calculateWithRegister_105 (by decide) ?_
          refine lv_icmp_ne (tgt := 123) hx hb dX0_calculateWithRegister_106 (by decide) (fun c10 => ?_) (fun c10 => ?_)
          · refine lv_aload_n hx hb dX0_calculateWithRegister_123 rfl (lv_at hl 4 rfl) ?_
            refine lv_iload_n hx hb dX0_calculateWithRegister_124 rfl (lv_at hl 5 rfl) ?_
            refine gMi (As := [.int p1]) (rest := []) (f := h_refuse st p1) ⟨hx, hb, hml, hown, hts⟩ (ch_refuse l dC dI cI h0 qme0 qre1 qco2 tN tB H.size st p1) (cwV 1 hts (gV mL_0_140 mI_0_refuse mX_0_refuse mN_0 mB_0_refuse) rfl rfl rfl (by decide +kernel) ⟨Nat.le_of_ble_eq_true rfl, Nat.le_of_ble_eq_true rfl⟩) hK hP hD hS hZ rfl hl.1 rfl (Nat.le_of_ble_eq_true rfl) dX0_calculateWithRegister_125 ⟨Nat.zero_le _, Nat.zero_le _⟩ (fun z11 ez11 H locs hP hD hS => ?_)
            have hP : va_P (dC, dI) vwCl (gW cI h0 qme0 qre1 qco2 z11.2) H := hP
            have hD : va_D (gA h0 qme0 qre1 qco2 s.heap.size) (gW cI h0 qme0 qre1 qco2 z11.2) := hD
            exact gZret (v := z11.1) (u := z11.2) hx hb hr hlocks (jnb (by rw [ez11]; exact hb_refuse st p1)) (by subst ez11 ex4 ex3 ex2 ex1; exact (((if_neg c5).trans ((if_neg c6).trans ((if_neg c7).trans ((if_pos c8).trans ((if_neg c10).trans rfl)))))).symm) hK hP hD hS dX0_calculateWithRegister_128
          · refine lv_aload_n hx hb dX0_calculateWithRegister_109 rfl (lv_at hl 4 rfl) ?_
            refine lv_iload_n hx hb dX0_calculateWithRegister_110 rfl (lv_at hl 5 rfl) ?_
            refine lv_iload hx hb dX0_calculateWithRegister_111 (lv_at hl 1 rfl) ?_
            refine lv_iload hx hb dX0_calculateWithRegister_113 (lv_at hl 0 rfl) ?_
            refine lv_bipush (v := 31) hx hb dX0_calculateWithRegister_115 (by decide) ?_
            refine lv_iand hx hb dX0_calculateWithRegister_117 ?_
            refine lv_ishr hx hb dX0_calculateWithRegister_118 ?_
            refine gMi (As := [.int p1, .int (x3 >>> ((x4 &&& (31 : Int32)) &&& 31))]) (rest := []) (f := h_goOnWith st p1 (x3 >>> ((x4 &&& (31 : Int32)) &&& 31))) ⟨hx, hb, hml, hown, hts⟩ (ch_goOnWith l dC dI cI h0 qme0 qre1 qco2 tN tB H.size st p1 (x3 >>> ((x4 &&& (31 : Int32)) &&& 31))) (cwV 2 hts (gV mL_0_122 mI_0_goOnWith mX_0_goOnWith mN_0 mB_0_goOnWith) rfl rfl rfl (by decide +kernel) ⟨Nat.le_of_ble_eq_true rfl, Nat.le_of_ble_eq_true rfl⟩) hK hP hD hS hZ rfl hl.1 rfl (Nat.le_of_ble_eq_true rfl) dX0_calculateWithRegister_119 ⟨Nat.zero_le _, Nat.zero_le _⟩ (fun z12 ez12 H locs hP hD hS => ?_)
            have hP : va_P (dC, dI) vwCl (gW cI h0 qme0 qre1 qco2 z12.2) H := hP
            have hD : va_D (gA h0 qme0 qre1 qco2 s.heap.size) (gW cI h0 qme0 qre1 qco2 z12.2) := hD
            exact gZret (v := z12.1) (u := z12.2) hx hb hr hlocks (jnb (by rw [ez12]; exact hb_goOnWith st p1 (x3 >>> ((x4 &&& (31 : Int32)) &&& 31)))) (by subst ez12 ex4 ex3 ex2 ex1; exact (((if_neg c5).trans ((if_neg c6).trans ((if_neg c7).trans ((if_pos c8).trans ((if_pos c10).trans rfl)))))).symm) hK hP hD hS dX0_calculateWithRegister_122
      · refine lv_iload_n hx hb dX0_calculateWithRegister_83 rfl (lv_at hl 3 rfl) ?_
        refine lv_if_ne (tgt := 98) hx hb dX0_calculateWithRegister_84 (by decide) (fun c13 => ?_) (fun c13 => ?_)
        · refine lv_iload_n hx hb dX0_calculateWithRegister_98 rfl (lv_at hl 2 rfl) ?_
          refine lv_bipush (v := 32) hx hb dX0_calculateWithRegister_99 (by decide) ?_
          refine lv_icmp_ne (tgt := 123) hx hb dX0_calculateWithRegister_101 (by decide) (fun c14 => ?_) (fun c14 => ?_)
          · refine lv_aload_n hx hb dX0_calculateWithRegister_123 rfl (lv_at hl 4 rfl) ?_
            refine lv_iload_n hx hb dX0_calculateWithRegister_124 rfl (lv_at hl 5 rfl) ?_
            refine gMi (As := [.int p1]) (rest := []) (f := h_refuse st p1) ⟨hx, hb, hml, hown, hts⟩ (ch_refuse l dC dI cI h0 qme0 qre1 qco2 tN tB H.size st p1) (cwV 1 hts (gV mL_0_140 mI_0_refuse mX_0_refuse mN_0 mB_0_refuse) rfl rfl rfl (by decide +kernel) ⟨Nat.le_of_ble_eq_true rfl, Nat.le_of_ble_eq_true rfl⟩) hK hP hD hS hZ rfl hl.1 rfl (Nat.le_of_ble_eq_true rfl) dX0_calculateWithRegister_125 ⟨Nat.zero_le _, Nat.zero_le _⟩ (fun z15 ez15 H locs hP hD hS => ?_)
            have hP : va_P (dC, dI) vwCl (gW cI h0 qme0 qre1 qco2 z15.2) H := hP
            have hD : va_D (gA h0 qme0 qre1 qco2 s.heap.size) (gW cI h0 qme0 qre1 qco2 z15.2) := hD
            exact gZret (v := z15.1) (u := z15.2) hx hb hr hlocks (jnb (by rw [ez15]; exact hb_refuse st p1)) (by subst ez15 ex4 ex3 ex2 ex1; exact (((if_neg c5).trans ((if_neg c6).trans ((if_pos c7).trans ((if_neg c13).trans ((if_neg c14).trans rfl)))))).symm) hK hP hD hS dX0_calculateWithRegister_128
          · refine lv_iload_n hx hb dX0_calculateWithRegister_104 rfl (lv_at hl 3 rfl) ?_
            refine lv_iconst (v := 5) hx hb dX0_calculateWithRegister_105 (by decide) ?_
            refine lv_icmp_ne (tgt := 123) hx hb dX0_calculateWithRegister_106 (by decide) (fun c16 => ?_) (fun c16 => ?_)
            · refine lv_aload_n hx hb dX0_calculateWithRegister_123 rfl (lv_at hl 4 rfl) ?_
              refine lv_iload_n hx hb dX0_calculateWithRegister_124 rfl (lv_at hl 5 rfl) ?_
              refine gMi (As := [.int p1]) (rest := []) (f := h_refuse st p1) ⟨hx, hb, hml, hown, hts⟩ (ch_refuse l dC dI cI h0 qme0 qre1 qco2 tN tB H.size st p1) (cwV 1 hts (gV mL_0_140 mI_0_refuse mX_0_refuse mN_0 mB_0_refuse) rfl rfl rfl (by decide +kernel) ⟨Nat.le_of_ble_eq_true rfl, Nat.le_of_ble_eq_true rfl⟩) hK hP hD hS hZ rfl hl.1 rfl (Nat.le_of_ble_eq_true rfl) dX0_calculateWithRegister_125 ⟨Nat.zero_le _, Nat.zero_le _⟩ (fun z17 ez17 H locs hP hD hS => ?_)
              have hP : va_P (dC, dI) vwCl (gW cI h0 qme0 qre1 qco2 z17.2) H := hP
              have hD : va_D (gA h0 qme0 qre1 qco2 s.heap.size) (gW cI h0 qme0 qre1 qco2 z17.2) := hD
              exact gZret (v := z17.1) (u := z17.2) hx hb hr hlocks (jnb (by rw [ez17]; exact hb_refuse st p1)) (by subst ez17 ex4 ex3 ex2 ex1; exact (((if_neg c5).trans ((if_neg c6).trans ((if_pos c7).trans ((if_neg c13).trans ((if_pos c14).trans ((if_neg c16).trans rfl))))))).symm) hK hP hD hS dX0_calculateWithRegister_128
            · refine lv_aload_n hx hb dX0_calculateWithRegister_109 rfl (lv_at hl 4 rfl) ?_
              refine lv_iload_n hx hb dX0_calculateWithRegister_110 rfl (lv_at hl 5 rfl) ?_
              refine lv_iload hx hb dX0_calculateWithRegister_111 (lv_at hl 1 rfl) ?_
              refine lv_iload hx hb dX0_calculateWithRegister_113 (lv_at hl 0 rfl) ?_
              refine lv_bipush (v := 31) hx hb dX0_calculateWithRegister_115 (by decide) ?_
              refine lv_iand hx hb dX0_calculateWithRegister_117 ?_
              refine lv_ishr hx hb dX0_calculateWithRegister_118 ?_
              refine gMi (As := [.int p1, .int (x3 >>> ((x4 &&& (31 : Int32)) &&& 31))]) (rest := []) (f := h_goOnWith st p1 (x3 >>> ((x4 &&& (31 : Int32)) &&& 31))) ⟨hx, hb, hml, hown, hts⟩ (ch_goOnWith l dC dI cI h0 qme0 qre1 qco2 tN tB H.size st p1 (x3 >>> ((x4 &&& (31 : Int32)) &&& 31))) (cwV 2 hts (gV mL_0_122 mI_0_goOnWith mX_0_goOnWith mN_0 mB_0_goOnWith) rfl rfl rfl (by decide +kernel) ⟨Nat.le_of_ble_eq_true rfl, Nat.le_of_ble_eq_true rfl⟩) hK hP hD hS hZ rfl hl.1 rfl (Nat.le_of_ble_eq_true rfl) dX0_calculateWithRegister_119 ⟨Nat.zero_le _, Nat.zero_le _⟩ (fun z18 ez18 H locs hP hD hS => ?_)
              have hP : va_P (dC, dI) vwCl (gW cI h0 qme0 qre1 qco2 z18.2) H := hP
              have hD : va_D (gA h0 qme0 qre1 qco2 s.heap.size) (gW cI h0 qme0 qre1 qco2 z18.2) := hD
              exact gZret (v := z18.1) (u := z18.2) hx hb hr hlocks (jnb (by rw [ez18]; exact hb_goOnWith st p1 (x3 >>> ((x4 &&& (31 : Int32)) &&& 31)))) (by subst ez18 ex4 ex3 ex2 ex1; exact (((if_neg c5).trans ((if_neg c6).trans ((if_pos c7).trans ((if_neg c13).trans ((if_pos c14).trans ((if_pos c16).trans rfl))))))).symm) hK hP hD hS dX0_calculateWithRegister_122
        · refine lv_aload_n hx hb dX0_calculateWithRegister_87 rfl (lv_at hl 4 rfl) ?_
          refine lv_iload_n hx hb dX0_calculateWithRegister_88 rfl (lv_at hl 5 rfl) ?_
          refine lv_iload hx hb dX0_calculateWithRegister_89 (lv_at hl 1 rfl) ?_
          refine lv_iload hx hb dX0_calculateWithRegister_91 (lv_at hl 0 rfl) ?_
          refine lv_isub hx hb dX0_calculateWithRegister_93 ?_
          refine gMi (As := [.int p1, .int (x3 - x4)]) (rest := []) (f := h_goOnWith st p1 (x3 - x4)) ⟨hx, hb, hml, hown, hts⟩ (ch_goOnWith l dC dI cI h0 qme0 qre1 qco2 tN tB H.size st p1 (x3 - x4)) (cwV 2 hts (gV mL_0_122 mI_0_goOnWith mX_0_goOnWith mN_0 mB_0_goOnWith) rfl rfl rfl (by decide +kernel) ⟨Nat.le_of_ble_eq_true rfl, Nat.le_of_ble_eq_true rfl⟩) hK hP hD hS hZ rfl hl.1 rfl (Nat.le_of_ble_eq_true rfl) dX0_calculateWithRegister_94 ⟨Nat.zero_le _, Nat.zero_le _⟩ (fun z19 ez19 H locs hP hD hS => ?_)
          have hP : va_P (dC, dI) vwCl (gW cI h0 qme0 qre1 qco2 z19.2) H := hP
          have hD : va_D (gA h0 qme0 qre1 qco2 s.heap.size) (gW cI h0 qme0 qre1 qco2 z19.2) := hD
          exact gZret (v := z19.1) (u := z19.2) hx hb hr hlocks (jnb (by rw [ez19]; exact hb_goOnWith st p1 (x3 - x4))) (by subst ez19 ex4 ex3 ex2 ex1; exact (((if_neg c5).trans ((if_neg c6).trans ((if_pos c7).trans ((if_pos c13).trans rfl))))).symm) hK hP hD hS dX0_calculateWithRegister_97
    · refine lv_aload_n hx hb dX0_calculateWithRegister_47 rfl (lv_at hl 4 rfl) ?_
      refine lv_iload_n hx hb dX0_calculateWithRegister_48 rfl (lv_at hl 5 rfl) ?_
      refine lv_iload_n hx hb dX0_calculateWithRegister_49 rfl (lv_at hl 3 rfl) ?_
      refine lv_iconst (v := 4) hx hb dX0_calculateWithRegister_50 (by decide) ?_
      refine lv_icmp_ge (tgt := 65) hx hb dX0_calculateWithRegister_51 (by decide) (fun c20 => ?_) (fun c20 => ?_)
      · refine lv_iload_n hx hb dX0_calculateWithRegister_65 rfl (lv_at hl 3 rfl) ?_
        refine lv_iload hx hb dX0_calculateWithRegister_66 (lv_at hl 1 rfl) ?_
        refine lv_iload hx hb dX0_calculateWithRegister_68 (lv_at hl 0 rfl) ?_
        refine W.callR (W.runS (As := [.int x1, .int x3, .int x4]) (rest := [.int p1, .ref h0]) ⟨hx, hb, hml, hown, hts⟩ (ch_divide l x1 x3 x4) (cwS 3 hts (gS mL_0_195 mS_0_divide mN_0 mB_0_divide) rfl rfl rfl (by decide +kernel) ⟨Nat.le_of_ble_eq_true rfl, Nat.le_of_ble_eq_true rfl⟩) ⟨jblind, fun _ _ _ => ⟨rfl, trivial⟩⟩ rfl rfl hl.1 rfl (lv_room (Nat.le_of_ble_eq_true rfl)) dX0_calculateWithRegister_70 ⟨Nat.zero_le _, Nat.zero_le _⟩) ?_
        refine W.eq (g2 := F0 m 73 ls (.int (h_divide x1 x3 x4) :: [.int p1, .ref h0])) rfl ?_
        refine lv_topi (fun x21 ex21 => ?_)
        refine gMi (As := [.int p1, .int x21]) (rest := []) (f := h_goOnWith st p1 x21) ⟨hx, hb, hml, hown, hts⟩ (ch_goOnWith l dC dI cI h0 qme0 qre1 qco2 tN tB H.size st p1 x21) (cwV 2 hts (gV mL_0_122 mI_0_goOnWith mX_0_goOnWith mN_0 mB_0_goOnWith) rfl rfl rfl (by decide +kernel) ⟨Nat.le_of_ble_eq_true rfl, Nat.le_of_ble_eq_true rfl⟩) hK hP hD hS hZ rfl hl.1 rfl (Nat.le_of_ble_eq_true rfl) dX0_calculateWithRegister_73 ⟨Nat.zero_le _, Nat.zero_le _⟩ (fun z22 ez22 H locs hP hD hS => ?_)
        have hP : va_P (dC, dI) vwCl (gW cI h0 qme0 qre1 qco2 z22.2) H := hP
        have hD : va_D (gA h0 qme0 qre1 qco2 s.heap.size) (gW cI h0 qme0 qre1 qco2 z22.2) := hD
        exact gZret (v := z22.1) (u := z22.2) hx hb hr hlocks (jnb (by rw [ez22]; exact hb_goOnWith st p1 x21)) (by subst ez22 ex21 ex4 ex3 ex2 ex1; exact (((if_neg c5).trans ((if_pos c6).trans ((if_pos c20).trans rfl)))).symm) hK hP hD hS dX0_calculateWithRegister_76
      · refine lv_iload_n hx hb dX0_calculateWithRegister_54 rfl (lv_at hl 3 rfl) ?_
        refine lv_iload hx hb dX0_calculateWithRegister_55 (lv_at hl 1 rfl) ?_
        refine lv_iload hx hb dX0_calculateWithRegister_57 (lv_at hl 0 rfl) ?_
        refine W.callR (W.runS (As := [.int x1, .int x3, .int x4]) (rest := [.int p1, .ref h0]) ⟨hx, hb, hml, hown, hts⟩ (ch_multiply l x1 x3 x4) (cwS 3 hts (gS mL_0_192 mS_0_multiply mN_0 mB_0_multiply) rfl rfl rfl (by decide +kernel) ⟨Nat.le_of_ble_eq_true rfl, Nat.le_of_ble_eq_true rfl⟩) ⟨jblind, fun _ _ _ => ⟨rfl, trivial⟩⟩ rfl rfl hl.1 rfl (lv_room (Nat.le_of_ble_eq_true rfl)) dX0_calculateWithRegister_59 ⟨Nat.zero_le _, Nat.zero_le _⟩) ?_
        refine W.eq (g2 := F0 m 62 ls (.int (h_multiply x1 x3 x4) :: [.int p1, .ref h0])) rfl ?_
        refine lv_topi (fun x23 ex23 => ?_)
        refine lv_goto (tgt := 73) hx hb dX0_calculateWithRegister_62 (by decide) ?_
        refine gMi (As := [.int p1, .int x23]) (rest := []) (f := h_goOnWith st p1 x23) ⟨hx, hb, hml, hown, hts⟩ (ch_goOnWith l dC dI cI h0 qme0 qre1 qco2 tN tB H.size st p1 x23) (cwV 2 hts (gV mL_0_122 mI_0_goOnWith mX_0_goOnWith mN_0 mB_0_goOnWith) rfl rfl rfl (by decide +kernel) ⟨Nat.le_of_ble_eq_true rfl, Nat.le_of_ble_eq_true rfl⟩) hK hP hD hS hZ rfl hl.1 rfl (Nat.le_of_ble_eq_true rfl) dX0_calculateWithRegister_73 ⟨Nat.zero_le _, Nat.zero_le _⟩ (fun z24 ez24 H locs hP hD hS => ?_)
        have hP : va_P (dC, dI) vwCl (gW cI h0 qme0 qre1 qco2 z24.2) H := hP
        have hD : va_D (gA h0 qme0 qre1 qco2 s.heap.size) (gW cI h0 qme0 qre1 qco2 z24.2) := hD
        exact gZret (v := z24.1) (u := z24.2) hx hb hr hlocks (jnb (by rw [ez24]; exact hb_goOnWith st p1 x23)) (by subst ez24 ex23 ex4 ex3 ex2 ex1; exact (((if_neg c5).trans ((if_pos c6).trans ((if_neg c20).trans rfl)))).symm) hK hP hD hS dX0_calculateWithRegister_76
  · refine lv_aload_n hx hb dX0_calculateWithRegister_28 rfl (lv_at hl 4 rfl) ?_
    refine lv_iload_n hx hb dX0_calculateWithRegister_29 rfl (lv_at hl 5 rfl) ?_
    refine lv_iload_n hx hb dX0_calculateWithRegister_30 rfl (lv_at hl 3 rfl) ?_
    refine lv_iload hx hb dX0_calculateWithRegister_31 (lv_at hl 1 rfl) ?_
    refine lv_iload hx hb dX0_calculateWithRegister_33 (lv_at hl 0 rfl) ?_
    refine W.callR (W.runS (As := [.int x1, .int x3, .int x4]) (rest := [.int p1, .ref h0]) ⟨hx, hb, hml, hown, hts⟩ (ch_calculate l x1 x3 x4) (cwS 3 hts (gS mL_0_189 mS_0_calculate mN_0 mB_0_calculate) rfl rfl rfl (by decide +kernel) ⟨Nat.le_of_ble_eq_true rfl, Nat.le_of_ble_eq_true rfl⟩) ⟨jblind, fun _ _ _ => ⟨rfl, trivial⟩⟩ rfl rfl hl.1 rfl (lv_room (Nat.le_of_ble_eq_true rfl)) dX0_calculateWithRegister_35 ⟨Nat.zero_le _, Nat.zero_le _⟩) ?_
    refine W.eq (g2 := F0 m 38 ls (.int (h_calculate x1 x3 x4) :: [.int p1, .ref h0])) rfl ?_
    refine lv_topi (fun x25 ex25 => ?_)
    refine gMi (As := [.int p1, .int x25]) (rest := []) (f := h_goOnWith st p1 x25) ⟨hx, hb, hml, hown, hts⟩ (ch_goOnWith l dC dI cI h0 qme0 qre1 qco2 tN tB H.size st p1 x25) (cwV 2 hts (gV mL_0_122 mI_0_goOnWith mX_0_goOnWith mN_0 mB_0_goOnWith) rfl rfl rfl (by decide +kernel) ⟨Nat.le_of_ble_eq_true rfl, Nat.le_of_ble_eq_true rfl⟩) hK hP hD hS hZ rfl hl.1 rfl (Nat.le_of_ble_eq_true rfl) dX0_calculateWithRegister_38 ⟨Nat.zero_le _, Nat.zero_le _⟩ (fun z26 ez26 H locs hP hD hS => ?_)
    have hP : va_P (dC, dI) vwCl (gW cI h0 qme0 qre1 qco2 z26.2) H := hP
    have hD : va_D (gA h0 qme0 qre1 qco2 s.heap.size) (gW cI h0 qme0 qre1 qco2 z26.2) := hD
    exact gZret (v := z26.1) (u := z26.2) hx hb hr hlocks (jnb (by rw [ez26]; exact hb_goOnWith st p1 x25)) (by subst ez26 ex25 ex4 ex3 ex2 ex1; exact (((if_pos c5).trans rfl)).symm) hK hP hD hS dX0_calculateWithRegister_41
theorem hb_calculateWithRegister (st : HS) (p1 : Int32) : (h_calculateWithRegister st p1).1 = 0 ∨ (h_calculateWithRegister st p1).1 = 1 := by
  unfold h_calculateWithRegister
  try dsimp only
  (repeat' split) <;> first | with_reducible exact hb_trap _ _ _ | with_reducible exact hb_refuse _ _ | with_reducible exact hb_goOn _ | with_reducible exact hb_goOnWith _ _ _ | with_reducible exact hb_jump _ _ _ | with_reducible exact hb_branch _ _ | with_reducible exact hb_load _ _ | with_reducible exact hb_store _ _ | with_reducible exact hb_calculateWithNumber _ _ | exact Or.inl rfl | exact Or.inr rfl
end
section
def h_call (st : HS)  : Int32 × HS :=
  if st.2.2.2.2.1 = 0 then
    let z3 : Int32 × HS := h_trap st (8 : Int32) (0 : Int32)
    z3
  else
    let z2 : Int32 × HS := h_goOn (st.1, st.2.1, st.2.2.1, st.2.2.2.1, st.2.2.2.2.1, (1 : Int32))
    z2
set_option maxHeartbeats 4000000 in
set_option maxRecDepth 100000 in
theorem ch_call (l : Launch) (dC : Nat → ClassId) (dI : Nat → Nat → Nat) (cI h0 qme0 qre1 qco2 tN tB : Nat) (sz : Nat) (st : HS)   : Met l yX0_call (.code yX0_call cX0_call 1 (some .boolean) :: gBIG) ({ frames := 1, cells := 0, slots := 0, locals := 22 }) (va_Pc [.ref h0] (gPre dC dI cI h0 qme0 qre1 qco2 tN tB sz st)) (va_Qi (fun r v => (r, v) = h_call st) (gB dC dI cI h0 qme0 qre1 qco2 (gA h0 qme0 qre1 qco2 sz)) (gA h0 qme0 qre1 qco2 sz)) 0 0 (gA h0 qme0 qre1 qco2 sz) := by
  refine Met.ofW (cc := cX0_call) (maxL := 1) (ret := (some .boolean)) (by decide) rfl ?_
  intro p e s m args below meth c s₁ B hml hv
  obtain ⟨rfl, hsz, hP, hK, hD0, hZ⟩ := hv
  have hx := B.exec
  have hb := B.bytes
  have hr := B.returns
  have hts : ∀ w ∈ gBIG, w.before _ s = true := fun w h => atoms_spec (ws := (.code yX0_call cX0_call 1 (some .boolean) :: gBIG)) B.pre w (List.mem_cons_of_mem _ h)
  have hown : s.vm.findClass "PagedHart" = some m.cls := findClass_of_methodNamed B.named
  have hlocks := B.notSynchronized
  subst hsz
  have hD : va_D (gA h0 qme0 qre1 qco2 s.heap.size) (gW cI h0 qme0 qre1 qco2 st) := gD hD0
  have hS : va_S (gA h0 qme0 qre1 qco2 s.heap.size) s.heap s.heap [] := va_S.rf
  have hP : va_P (dC, dI) vwCl (gW cI h0 qme0 qre1 qco2 st) s.heap := hP
  have hl := lv_entry ([.ref h0]) (n := 1) (Nat.le_of_ble_eq_true rfl)
  rw [lg_entry_eq]
  generalize (lg_sl ([.ref h0]) ++ List.replicate (1 - (lg_sl ([.ref h0])).length) Slot.unset).toArray = ls at hl ⊢
  refine jgo (P := fun H locs => va_P (dC, dI) vwCl (gW cI h0 qme0 qre1 qco2 st) H ∧ va_S (gA h0 qme0 qre1 qco2 s.heap.size) s.heap H locs) ⟨hP, hS⟩ (fun H locs hPS => ?_)
  obtain ⟨hP, hS⟩ := hPS
  have hl : lv_has ls 1 [(0, .ref h0)] := hl
  refine lv_aload_n hx hb dX0_call_0 rfl (lv_at hl 0 rfl) ?_
  refine va_get (D := (dC, dI)) (ci := 0) (v := .int st.2.2.2.2.1) (C := "PagedHart") (T := TX0) (N := 6) hx hb hts mU0 hown hK hP 0 rfl rfl 4 (by decide) (hts _ mF_0_24) (fun _ h9 => h9) rfl dX0_call_1 ?_
  refine lv_if_ne (tgt := 15) hx hb dX0_call_4 (by decide) (fun c1 => ?_) (fun c1 => ?_)
  · refine lv_aload_n hx hb dX0_call_15 rfl (lv_at hl 0 rfl) ?_
    refine lv_iconst (v := 1) hx hb dX0_call_16 (by decide) ?_
    refine va_put (D := (dC, dI)) (ci := 0) (v := .int 1) (ty := .boolean) (C := "PagedHart") (T := TX0) (N := 6) hx hb hts mU0 tyX0 tyX0_ok nmX0 hown hK hP hD hS 0 rfl rfl 5 (by decide) (hts _ mF_0_27) (fun _ h9 => h9) rfl (by decide +kernel) rfl rfl (Nat.le_of_ble_eq_true rfl) dX0_call_17 (fun H locs hP hD hS => ?_)
    have hP : va_P (dC, dI) vwCl (gW cI h0 qme0 qre1 qco2 (st.1, st.2.1, st.2.2.1, st.2.2.2.1, st.2.2.2.2.1, (1 : Int32))) H := hP
    have hD : va_D (gA h0 qme0 qre1 qco2 s.heap.size) (gW cI h0 qme0 qre1 qco2 (st.1, st.2.1, st.2.2.1, st.2.2.2.1, st.2.2.2.2.1, (1 : Int32))) := hD
    refine lv_aload_n hx hb dX0_call_20 rfl (lv_at hl 0 rfl) ?_
    refine gMi (As := []) (rest := []) (f := h_goOn (st.1, st.2.1, st.2.2.1, st.2.2.2.1, st.2.2.2.2.1, (1 : Int32))) ⟨hx, hb, hml, hown, hts⟩ (ch_goOn l dC dI cI h0 qme0 qre1 qco2 tN tB H.size (st.1, st.2.1, st.2.2.1, st.2.2.2.1, st.2.2.2.2.1, (1 : Int32)) ) (cwV 0 hts (gV mL_0_115 mI_0_goOn mX_0_goOn mN_0 mB_0_goOn) rfl rfl rfl (by decide +kernel) ⟨Nat.le_of_ble_eq_true rfl, Nat.le_of_ble_eq_true rfl⟩) hK hP hD hS hZ rfl hl.1 rfl (Nat.le_of_ble_eq_true rfl) dX0_call_21 ⟨Nat.zero_le _, Nat.zero_le _⟩ (fun z2 ez2 H locs hP hD hS => ?_)
    have hP : va_P (dC, dI) vwCl (gW cI h0 qme0 qre1 qco2 z2.2) H := hP
    have hD : va_D (gA h0 qme0 qre1 qco2 s.heap.size) (gW cI h0 qme0 qre1 qco2 z2.2) := hD
    exact gZret (v := z2.1) (u := z2.2) hx hb hr hlocks (jnb (by rw [ez2]; exact hb_goOn (st.1, st.2.1, st.2.2.1, st.2.2.2.1, st.2.2.2.2.1, (1 : Int32)))) (by subst ez2; exact (((if_neg c1).trans rfl)).symm) hK hP hD hS dX0_call_24
  · refine lv_aload_n hx hb dX0_call_7 rfl (lv_at hl 0 rfl) ?_
    refine lv_bipush (v := 8) hx hb dX0_call_8 (by decide) ?_
    refine lv_iconst (v := 0) hx hb dX0_call_10 (by decide) ?_
    refine gMi (As := [.int 8, .int 0]) (rest := []) (f := h_trap st (8 : Int32) (0 : Int32)) ⟨hx, hb, hml, hown, hts⟩ (ch_trap l dC dI cI h0 qme0 qre1 qco2 tN tB H.size st (8 : Int32) (0 : Int32)) (cwV 2 hts (gV mL_0_96 mI_0_trap mX_0_trap mN_0 mB_0_trap) rfl rfl rfl (by decide +kernel) ⟨Nat.le_of_ble_eq_true rfl, Nat.le_of_ble_eq_true rfl⟩) hK hP hD hS hZ rfl hl.1 rfl (Nat.le_of_ble_eq_true rfl) dX0_call_11 ⟨Nat.zero_le _, Nat.zero_le _⟩ (fun z3 ez3 H locs hP hD hS => ?_)
    have hP : va_P (dC, dI) vwCl (gW cI h0 qme0 qre1 qco2 z3.2) H := hP
    have hD : va_D (gA h0 qme0 qre1 qco2 s.heap.size) (gW cI h0 qme0 qre1 qco2 z3.2) := hD
    exact gZret (v := z3.1) (u := z3.2) hx hb hr hlocks (jnb (by rw [ez3]; exact hb_trap st (8 : Int32) (0 : Int32))) (by subst ez3; exact (((if_pos c1).trans rfl)).symm) hK hP hD hS dX0_call_14
theorem hb_call (st : HS)  : (h_call st ).1 = 0 ∨ (h_call st ).1 = 1 := by
  unfold h_call
  try dsimp only
  (repeat' split) <;> first | with_reducible exact hb_trap _ _ _ | with_reducible exact hb_refuse _ _ | with_reducible exact hb_goOn _ | with_reducible exact hb_goOnWith _ _ _ | with_reducible exact hb_jump _ _ _ | with_reducible exact hb_branch _ _ | with_reducible exact hb_load _ _ | with_reducible exact hb_store _ _ | with_reducible exact hb_calculateWithNumber _ _ | with_reducible exact hb_calculateWithRegister _ _ | exact Or.inl rfl | exact Or.inr rfl

def h_returnFromTrap (st : HS)  : Int32 × HS :=
  let x1 : Int32 := (jush (st.2.2.1 (0 : Int32).toNatClampNeg) (8 : Int32)) &&& (1 : Int32)
  ((1 : Int32), (st.1, st.2.1, upd st.2.2.1 (0 : Int32).toNatClampNeg ((st.2.2.1 (0 : Int32).toNatClampNeg) &&& ((-257) : Int32)), st.2.2.1 (3 : Int32).toNatClampNeg, x1, st.2.2.2.2.2))
set_option maxHeartbeats 4000000 in
set_option maxRecDepth 100000 in
theorem ch_returnFromTrap (l : Launch) (dC : Nat → ClassId) (dI : Nat → Nat → Nat) (cI h0 qme0 qre1 qco2 tN tB : Nat) (sz : Nat) (st : HS)   : Met l yX0_returnFromTrap (.code yX0_returnFromTrap cX0_returnFromTrap 1 (some .boolean) :: gBIG) ({ frames := 0, cells := 0, slots := 0, locals := 0 }) (va_Pc [.ref h0] (gPre dC dI cI h0 qme0 qre1 qco2 tN tB sz st)) (va_Qi (fun r v => (r, v) = h_returnFromTrap st) (gB dC dI cI h0 qme0 qre1 qco2 (gA h0 qme0 qre1 qco2 sz)) (gA h0 qme0 qre1 qco2 sz)) 0 0 (gA h0 qme0 qre1 qco2 sz) := by
  refine Met.ofW (cc := cX0_returnFromTrap) (maxL := 1) (ret := (some .boolean)) (by decide) rfl ?_
  intro p e s m args below meth c s₁ B hml hv
  obtain ⟨rfl, hsz, hP, hK, hD0, hZ⟩ := hv
  have hx := B.exec
  have hb := B.bytes
  have hr := B.returns
  have hts : ∀ w ∈ gBIG, w.before _ s = true := fun w h => atoms_spec (ws := (.code yX0_returnFromTrap cX0_returnFromTrap 1 (some .boolean) :: gBIG)) B.pre w (List.mem_cons_of_mem _ h)
  have hown : s.vm.findClass "PagedHart" = some m.cls := findClass_of_methodNamed B.named
  have hlocks := B.notSynchronized
  subst hsz
  have hD : va_D (gA h0 qme0 qre1 qco2 s.heap.size) (gW cI h0 qme0 qre1 qco2 st) := gD hD0
  have hS : va_S (gA h0 qme0 qre1 qco2 s.heap.size) s.heap s.heap [] := va_S.rf
  have hP : va_P (dC, dI) vwCl (gW cI h0 qme0 qre1 qco2 st) s.heap := hP
  have hl := lv_entry ([.ref h0]) (n := 1) (Nat.le_of_ble_eq_true rfl)
  rw [lg_entry_eq]
  generalize (lg_sl ([.ref h0]) ++ List.replicate (1 - (lg_sl ([.ref h0])).length) Slot.unset).toArray = ls at hl ⊢
  refine jgo (P := fun H locs => va_P (dC, dI) vwCl (gW cI h0 qme0 qre1 qco2 st) H ∧ va_S (gA h0 qme0 qre1 qco2 s.heap.size) s.heap H locs) ⟨hP, hS⟩ (fun H locs hPS => ?_)
  obtain ⟨hP, hS⟩ := hPS
  have hl : lv_has ls 1 [(0, .ref h0)] := hl
  refine lv_aload_n hx hb dX0_returnFromTrap_0 rfl (lv_at hl 0 rfl) ?_
  refine lv_aload_n hx hb dX0_returnFromTrap_1 rfl (lv_at hl 0 rfl) ?_
  refine va_get (D := (dC, dI)) (ci := 0) (v := .ref qco2) (C := "PagedHart") (T := TX0) (N := 6) hx hb hts mU0 hown hK hP 0 rfl rfl 2 (by decide) (hts _ mF_0_17) (fun _ h9 => h9) rfl dX0_returnFromTrap_2 ?_
  refine lv_iconst (v := 3) hx hb dX0_returnFromTrap_5 (by decide) ?_
  refine va_iald (D := (dC, dI)) hx hb hK hP 3 0 rfl rfl (jin (by decide)) dX0_returnFromTrap_6 ?_
  refine va_put (D := (dC, dI)) (ci := 0) (v := .int (st.2.2.1 (3 : Int32).toNatClampNeg)) (ty := .int) (C := "PagedHart") (T := TX0) (N := 6) hx hb hts mU0 tyX0 tyX0_ok nmX0 hown hK hP hD hS 0 rfl rfl 3 (by decide) (hts _ mF_0_20) (fun _ h9 => h9) rfl (by decide +kernel) rfl rfl (Nat.le_of_ble_eq_true rfl) dX0_returnFromTrap_7 (fun H locs hP hD hS => ?_)
  have hP : va_P (dC, dI) vwCl (gW cI h0 qme0 qre1 qco2 (st.1, st.2.1, st.2.2.1, st.2.2.1 (3 : Int32).toNatClampNeg, st.2.2.2.2.1, st.2.2.2.2.2)) H := hP
  have hD : va_D (gA h0 qme0 qre1 qco2 s.heap.size) (gW cI h0 qme0 qre1 qco2 (st.1, st.2.1, st.2.2.1, st.2.2.1 (3 : Int32).toNatClampNeg, st.2.2.2.2.1, st.2.2.2.2.2)) := hD
  refine lv_aload_n hx hb dX0_returnFromTrap_10 rfl (lv_at hl 0 rfl) ?_
  refine lv_aload_n hx hb dX0_returnFromTrap_11 rfl (lv_at hl 0 rfl) ?_
  refine va_get (D := (dC, dI)) (ci := 0) (v := .ref qco2) (C := "PagedHart") (T := TX0) (N := 6) hx hb hts mU0 hown hK hP 0 rfl rfl 2 (by decide) (hts _ mF_0_17) (fun _ h9 => h9) rfl dX0_returnFromTrap_12 ?_
  refine lv_iconst (v := 0) hx hb dX0_returnFromTrap_15 (by decide) ?_
  refine va_iald (D := (dC, dI)) hx hb hK hP 3 0 rfl rfl (jin (by decide)) dX0_returnFromTrap_16 ?_
  refine lv_bipush (v := 8) hx hb dX0_returnFromTrap_17 (by decide) ?_
  refine lv_iushr (v := jush (st.2.2.1 (0 : Int32).toNatClampNeg) (8 : Int32)) hx hb dX0_returnFromTrap_19 rfl ?_
  refine lv_iconst (v := 1) hx hb dX0_returnFromTrap_20 (by decide) ?_
  refine lv_iand hx hb dX0_returnFromTrap_21 ?_
  refine lv_topi (fun x1 ex1 => ?_)
  refine va_put (D := (dC, dI)) (ci := 0) (v := .int x1) (ty := .int) (C := "PagedHart") (T := TX0) (N := 6) hx hb hts mU0 tyX0 tyX0_ok nmX0 hown hK hP hD hS 0 rfl rfl 4 (by decide) (hts _ mF_0_24) (fun _ h9 => h9) rfl (by decide +kernel) rfl rfl (Nat.le_of_ble_eq_true rfl) dX0_returnFromTrap_22 (fun H locs hP hD hS => ?_)
  have hP : va_P (dC, dI) vwCl (gW cI h0 qme0 qre1 qco2 (st.1, st.2.1, st.2.2.1, st.2.2.1 (3 : Int32).toNatClampNeg, x1, st.2.2.2.2.2)) H := hP
  have hD : va_D (gA h0 qme0 qre1 qco2 s.heap.size) (gW cI h0 qme0 qre1 qco2 (st.1, st.2.1, st.2.2.1, st.2.2.1 (3 : Int32).toNatClampNeg, x1, st.2.2.2.2.2)) := hD
  refine lv_aload_n hx hb dX0_returnFromTrap_25 rfl (lv_at hl 0 rfl) ?_
  refine va_get (D := (dC, dI)) (ci := 0) (v := .ref qco2) (C := "PagedHart") (T := TX0) (N := 6) hx hb hts mU0 hown hK hP 0 rfl rfl 2 (by decide) (hts _ mF_0_17) (fun _ h9 => h9) rfl dX0_returnFromTrap_26 ?_
  refine lv_iconst (v := 0) hx hb dX0_returnFromTrap_29 (by decide) ?_
  refine lv_dup2_11 hx hb dX0_returnFromTrap_30 rfl rfl ?_
  refine va_iald (D := (dC, dI)) hx hb hK hP 3 0 rfl rfl (jin (by decide)) dX0_returnFromTrap_31 ?_
  refine lv_sipush (v := (-257)) hx hb dX0_returnFromTrap_32 (by decide) ?_
  refine lv_iand hx hb dX0_returnFromTrap_35 ?_
  refine va_iast (D := (dC, dI)) hx hb hK hP hD hS 3 0 rfl rfl (jin (by decide)) dX0_returnFromTrap_36 (fun H locs hP hD hS => ?_)
  have hP : va_P (dC, dI) vwCl (gW cI h0 qme0 qre1 qco2 (st.1, st.2.1, upd st.2.2.1 (0 : Int32).toNatClampNeg ((st.2.2.1 (0 : Int32).toNatClampNeg) &&& ((-257) : Int32)), st.2.2.1 (3 : Int32).toNatClampNeg, x1, st.2.2.2.2.2)) H := hP
  have hD : va_D (gA h0 qme0 qre1 qco2 s.heap.size) (gW cI h0 qme0 qre1 qco2 (st.1, st.2.1, upd st.2.2.1 (0 : Int32).toNatClampNeg ((st.2.2.1 (0 : Int32).toNatClampNeg) &&& ((-257) : Int32)), st.2.2.1 (3 : Int32).toNatClampNeg, x1, st.2.2.2.2.2)) := hD
  refine lv_iconst (v := 1) hx hb dX0_returnFromTrap_37 (by decide) ?_
  exact gZret (v := 1) (u := (st.1, st.2.1, upd st.2.2.1 (0 : Int32).toNatClampNeg ((st.2.2.1 (0 : Int32).toNatClampNeg) &&& ((-257) : Int32)), st.2.2.1 (3 : Int32).toNatClampNeg, x1, st.2.2.2.2.2)) hx hb hr hlocks rfl (by subst ex1; exact (rfl).symm) hK hP hD hS dX0_returnFromTrap_38
theorem hb_returnFromTrap (st : HS)  : (h_returnFromTrap st ).1 = 0 ∨ (h_returnFromTrap st ).1 = 1 := by
  unfold h_returnFromTrap
  try dsimp only
  (repeat' split) <;> first | with_reducible exact hb_trap _ _ _ | with_reducible exact hb_refuse _ _ | with_reducible exact hb_goOn _ | with_reducible exact hb_goOnWith _ _ _ | with_reducible exact hb_jump _ _ _ | with_reducible exact hb_branch _ _ | with_reducible exact hb_load _ _ | with_reducible exact hb_store _ _ | with_reducible exact hb_calculateWithNumber _ _ | with_reducible exact hb_calculateWithRegister _ _ | with_reducible exact hb_call _ | exact Or.inl rfl | exact Or.inr rfl

def h_changeControl (st : HS) (p1 : Int32) : Int32 × HS :=
  let x1 : Int32 := h_fOf p1
  let x2 : Int32 := h_slotOf (jush p1 (20 : Int32))
  if x1 = (4 : Int32) then
    let z4 : Int32 × HS := h_refuse st p1
    z4
  else
    if 0 ≤ x2 then
      let x6 : Int32 := st.2.2.1 x2.toNatClampNeg
      if x1 ≤ (4 : Int32) then
        let x8 : Int32 := h_aOf st p1
        let x9 : Int32 := h_changed (x1 &&& (3 : Int32)) x6 x8
        let z10 : Int32 × HS := h_goOnWith (st.1, st.2.1, upd st.2.2.1 x2.toNatClampNeg (x9 &&& (hBit x2.toNatClampNeg)), st.2.2.2.1, st.2.2.2.2.1, st.2.2.2.2.2) p1 x6
        z10
      else
        let x11 : Int32 := (jush p1 (15 : Int32)) &&& (31 : Int32)
        let x12 : Int32 := h_changed (x1 &&& (3 : Int32)) x6 x11
        let z13 : Int32 × HS := h_goOnWith (st.1, st.2.1, upd st.2.2.1 x2.toNatClampNeg (x12 &&& (hBit x2.toNatClampNeg)), st.2.2.2.1, st.2.2.2.2.1, st.2.2.2.2.2) p1 x6
        z13
    else
      let z14 : Int32 × HS := h_refuse st p1
      z14
set_option maxHeartbeats 4000000 in
set_option maxRecDepth 100000 in
theorem ch_changeControl (l : Launch) (dC : Nat → ClassId) (dI : Nat → Nat → Nat) (cI h0 qme0 qre1 qco2 tN tB : Nat) (sz : Nat) (st : HS) (p1 : Int32)  : Met l yX0_changeControl (.code yX0_changeControl cX0_changeControl 6 (some .boolean) :: gBIG) ({ frames := 2, cells := 0, slots := 0, locals := 45 }) (va_Pc [.ref h0, .int p1] (gPre dC dI cI h0 qme0 qre1 qco2 tN tB sz st)) (va_Qi (fun r v => (r, v) = h_changeControl st p1) (gB dC dI cI h0 qme0 qre1 qco2 (gA h0 qme0 qre1 qco2 sz)) (gA h0 qme0 qre1 qco2 sz)) 0 0 (gA h0 qme0 qre1 qco2 sz) := by
  refine Met.ofW (cc := cX0_changeControl) (maxL := 6) (ret := (some .boolean)) (by decide) rfl ?_
  intro p e s m args below meth c s₁ B hml hv
  obtain ⟨rfl, hsz, hP, hK, hD0, hZ⟩ := hv
  have hx := B.exec
  have hb := B.bytes
  have hr := B.returns
  have hts : ∀ w ∈ gBIG, w.before _ s = true := fun w h => atoms_spec (ws := (.code yX0_changeControl cX0_changeControl 6 (some .boolean) :: gBIG)) B.pre w (List.mem_cons_of_mem _ h)
  have hown : s.vm.findClass "PagedHart" = some m.cls := findClass_of_methodNamed B.named
  have hlocks := B.notSynchronized
  subst hsz
  have hD : va_D (gA h0 qme0 qre1 qco2 s.heap.size) (gW cI h0 qme0 qre1 qco2 st) := gD hD0
  have hS : va_S (gA h0 qme0 qre1 qco2 s.heap.size) s.heap s.heap [] := va_S.rf
  have hP : va_P (dC, dI) vwCl (gW cI h0 qme0 qre1 qco2 st) s.heap := hP
  have hl := lv_entry ([.ref h0, .int p1]) (n := 6) (Nat.le_of_ble_eq_true rfl)
  rw [lg_entry_eq]
  generalize (lg_sl ([.ref h0, .int p1]) ++ List.replicate (6 - (lg_sl ([.ref h0, .int p1])).length) Slot.unset).toArray = ls at hl ⊢
  refine jgo (P := fun H locs => va_P (dC, dI) vwCl (gW cI h0 qme0 qre1 qco2 st) H ∧ va_S (gA h0 qme0 qre1 qco2 s.heap.size) s.heap H locs) ⟨hP, hS⟩ (fun H locs hPS => ?_)
  obtain ⟨hP, hS⟩ := hPS
  have hl : lv_has ls 6 [(0, .ref h0), (1, .int p1)] := hl
  refine lv_iload_n hx hb dX0_changeControl_0 rfl (lv_at hl 1 rfl) ?_
  refine W.callR (W.runS (As := [.int p1]) (rest := []) ⟨hx, hb, hml, hown, hts⟩ (ch_fOf l p1) (cwS 1 hts (gS mL_0_131 mS_0_fOf mN_0 mB_0_fOf) rfl rfl rfl (by decide +kernel) ⟨Nat.le_of_ble_eq_true rfl, Nat.le_of_ble_eq_true rfl⟩) ⟨jblind, fun _ _ _ => ⟨rfl, trivial⟩⟩ rfl rfl hl.1 rfl (lv_room (Nat.le_of_ble_eq_true rfl)) dX0_changeControl_1 ⟨Nat.zero_le _, Nat.zero_le _⟩) ?_
  refine W.eq (g2 := F0 m 4 ls (.int (h_fOf p1) :: [])) rfl ?_
  refine lv_topi (fun x1 ex1 => ?_)
  refine lv_istore_n (lv' := [(2, .int x1), (0, .ref h0), (1, .int p1)]) hx hb dX0_changeControl_4 rfl hl (by decide) rfl (fun ls hl => ?_)
  refine lv_iload_n hx hb dX0_changeControl_5 rfl (lv_at hl 2 rfl) ?_
  refine lv_bipush (v := 20) hx hb dX0_changeControl_6 (by decide) ?_
  refine lv_iushr (v := jush p1 (20 : Int32)) hx hb dX0_changeControl_8 rfl ?_
  refine W.callR (W.runS (As := [.int (jush p1 (20 : Int32))]) (rest := []) ⟨hx, hb, hml, hown, hts⟩ (ch_slotOf l tN tB (jush p1 (20 : Int32))) (cwS 1 hts (gS mL_0_54 mS_0_slotOf mN_0 mB_0_slotOf) rfl rfl rfl (by decide +kernel) ⟨Nat.le_of_ble_eq_true rfl, Nat.le_of_ble_eq_true rfl⟩) ⟨gZblind, fun U hU hW => ⟨rfl, gZpOf hS hZ U hU hW⟩⟩ rfl rfl hl.1 rfl (lv_room (Nat.le_of_ble_eq_true rfl)) dX0_changeControl_9 ⟨Nat.zero_le _, Nat.zero_le _⟩) ?_
  refine W.eq (g2 := F0 m 12 ls (.int (h_slotOf (jush p1 (20 : Int32))) :: [])) rfl ?_
  refine lv_topi (fun x2 ex2 => ?_)
  refine lv_istore_n (lv' := [(3, .int x2), (2, .int x1), (0, .ref h0), (1, .int p1)]) hx hb dX0_changeControl_12 rfl hl (by decide) rfl (fun ls hl => ?_)
  refine lv_iload_n hx hb dX0_changeControl_13 rfl (lv_at hl 1 rfl) ?_
  refine lv_iconst (v := 4) hx hb dX0_changeControl_14 (by decide) ?_
  refine lv_icmp_eq (tgt := 22) hx hb dX0_changeControl_15 (by decide) (fun c3 => ?_) (fun c3 => ?_)
  · refine lv_aload_n hx hb dX0_changeControl_22 rfl (lv_at hl 2 rfl) ?_
    refine lv_iload_n hx hb dX0_changeControl_23 rfl (lv_at hl 3 rfl) ?_
    refine gMi (As := [.int p1]) (rest := []) (f := h_refuse st p1) ⟨hx, hb, hml, hown, hts⟩ (ch_refuse l dC dI cI h0 qme0 qre1 qco2 tN tB H.size st p1) (cwV 1 hts (gV mL_0_140 mI_0_refuse mX_0_refuse mN_0 mB_0_refuse) rfl rfl rfl (by decide +kernel) ⟨Nat.le_of_ble_eq_true rfl, Nat.le_of_ble_eq_true rfl⟩) hK hP hD hS hZ rfl hl.1 rfl (Nat.le_of_ble_eq_true rfl) dX0_changeControl_24 ⟨Nat.zero_le _, Nat.zero_le _⟩ (fun z4 ez4 H locs hP hD hS => ?_)
    have hP : va_P (dC, dI) vwCl (gW cI h0 qme0 qre1 qco2 z4.2) H := hP
    have hD : va_D (gA h0 qme0 qre1 qco2 s.heap.size) (gW cI h0 qme0 qre1 qco2 z4.2) := hD
    exact gZret (v := z4.1) (u := z4.2) hx hb hr hlocks (jnb (by rw [ez4]; exact hb_refuse st p1)) (by subst ez4 ex2 ex1; exact (((if_pos c3).trans rfl)).symm) hK hP hD hS dX0_changeControl_27
  · refine lv_iload_n hx hb dX0_changeControl_18 rfl (lv_at hl 0 rfl) ?_
    refine lv_if_ge (tgt := 28) hx hb dX0_changeControl_19 (by decide) (fun c5 => ?_) (fun c5 => ?_)
    · refine lv_aload_n hx hb dX0_changeControl_28 rfl (lv_at hl 2 rfl) ?_
      refine va_get (D := (dC, dI)) (ci := 0) (v := .ref qco2) (C := "PagedHart") (T := TX0) (N := 6) hx hb hts mU0 hown hK hP 0 rfl rfl 2 (by decide) (hts _ mF_0_17) (fun _ h9 => h9) rfl dX0_changeControl_29 ?_
      refine lv_iload_n hx hb dX0_changeControl_32 rfl (lv_at hl 0 rfl) ?_
      refine va_iald (D := (dC, dI)) hx hb hK hP 3 0 rfl rfl (by rw [ex2]; exact h_in3 (by rw [← ex2]; exact c5)) dX0_changeControl_33 ?_
      refine lv_topi (fun x6 ex6 => ?_)
      refine lv_istore (lv' := [(4, .int x6), (3, .int x2), (2, .int x1), (0, .ref h0), (1, .int p1)]) hx hb dX0_changeControl_34 hl (by decide) rfl (fun ls hl => ?_)
      refine lv_iload_n hx hb dX0_changeControl_36 rfl (lv_at hl 2 rfl) ?_
      refine lv_iconst (v := 4) hx hb dX0_changeControl_37 (by decide) ?_
      refine lv_icmp_le (tgt := 51) hx hb dX0_changeControl_38 (by decide) (fun c7 => ?_) (fun c7 => ?_)
      · refine lv_aload_n hx hb dX0_changeControl_51 rfl (lv_at hl 3 rfl) ?_
        refine lv_iload_n hx hb dX0_changeControl_52 rfl (lv_at hl 4 rfl) ?_
        refine gR (As := [.int p1]) (rest := []) (f := h_aOf st p1) ⟨hx, hb, hml, hown, hts⟩ (ch_aOf l dC dI cI h0 qme0 qre1 qco2 tN tB H.size st p1) (cwV 1 hts (gV mL_0_134 mI_0_aOf mX_0_aOf mN_0 mB_0_aOf) rfl rfl rfl (by decide +kernel) ⟨Nat.le_of_ble_eq_true rfl, Nat.le_of_ble_eq_true rfl⟩) hK hP hD hS hZ rfl hl.1 rfl (Nat.le_of_ble_eq_true rfl) dX0_changeControl_53 ⟨Nat.zero_le _, Nat.zero_le _⟩ ?_
        refine lv_topi (fun x8 ex8 => ?_)
        refine lv_istore (lv' := [(5, .int x8), (4, .int x6), (3, .int x2), (2, .int x1), (0, .ref h0), (1, .int p1)]) hx hb dX0_changeControl_56 hl (by decide) rfl (fun ls hl => ?_)
        refine lv_aload_n hx hb dX0_changeControl_58 rfl (lv_at hl 4 rfl) ?_
        refine va_get (D := (dC, dI)) (ci := 0) (v := .ref qco2) (C := "PagedHart") (T := TX0) (N := 6) hx hb hts mU0 hown hK hP 0 rfl rfl 2 (by decide) (hts _ mF_0_17) (fun _ h9 => h9) rfl dX0_changeControl_59 ?_
        refine lv_iload_n hx hb dX0_changeControl_62 rfl (lv_at hl 2 rfl) ?_
        refine lv_iload_n hx hb dX0_changeControl_63 rfl (lv_at hl 3 rfl) ?_
        refine lv_iconst (v := 3) hx hb dX0_changeControl_64 (by decide) ?_
        refine lv_iand hx hb dX0_changeControl_65 ?_
        refine lv_iload hx hb dX0_changeControl_66 (lv_at hl 1 rfl) ?_
        refine lv_iload hx hb dX0_changeControl_68 (lv_at hl 0 rfl) ?_
        refine W.callR (W.runS (As := [.int (x1 &&& (3 : Int32)), .int x6, .int x8]) (rest := [.int x2, .ref qco2]) ⟨hx, hb, hml, hown, hts⟩ (ch_changed l (x1 &&& (3 : Int32)) x6 x8) (cwS 3 hts (gS mL_0_212 mS_0_changed mN_0 mB_0_changed) rfl rfl rfl (by decide +kernel) ⟨Nat.le_of_ble_eq_true rfl, Nat.le_of_ble_eq_true rfl⟩) ⟨jblind, fun _ _ _ => ⟨rfl, trivial⟩⟩ rfl rfl hl.1 rfl (lv_room (Nat.le_of_ble_eq_true rfl)) dX0_changeControl_70 ⟨Nat.zero_le _, Nat.zero_le _⟩) ?_
        refine W.eq (g2 := F0 m 73 ls (.int (h_changed (x1 &&& (3 : Int32)) x6 x8) :: [.int x2, .ref qco2])) rfl ?_
        refine lv_topi (fun x9 ex9 => ?_)
        refine va_gets hx hb hZ.2.2.1 hS hown (hts _ mF_0_63) (fun _ h => h) dX0_changeControl_73 ?_
        refine lv_iload_n hx hb dX0_changeControl_76 rfl (lv_at hl 2 rfl) ?_
        refine va_ti hx hb hZ.2.2.2 hS (by rw [ex2]; exact h_in3 (by rw [← ex2]; exact c5)) (v := .int (hBit x2.toNatClampNeg)) rfl dX0_changeControl_77 ?_
        refine lv_iand hx hb dX0_changeControl_78 ?_
        refine va_iast (D := (dC, dI)) hx hb hK hP hD hS 3 0 rfl rfl (by rw [ex2]; exact h_in3 (by rw [← ex2]; exact c5)) dX0_changeControl_79 (fun H locs hP hD hS => ?_)
        have hP : va_P (dC, dI) vwCl (gW cI h0 qme0 qre1 qco2 (st.1, st.2.1, upd st.2.2.1 x2.toNatClampNeg (x9 &&& (hBit x2.toNatClampNeg)), st.2.2.2.1, st.2.2.2.2.1, st.2.2.2.2.2)) H := hP
        have hD : va_D (gA h0 qme0 qre1 qco2 s.heap.size) (gW cI h0 qme0 qre1 qco2 (st.1, st.2.1, upd st.2.2.1 x2.toNatClampNeg (x9 &&& (hBit x2.toNatClampNeg)), st.2.2.2.1, st.2.2.2.2.1, st.2.2.2.2.2)) := hD
        refine lv_aload_n hx hb dX0_changeControl_80 rfl (lv_at hl 4 rfl) ?_
        refine lv_iload_n hx hb dX0_changeControl_81 rfl (lv_at hl 5 rfl) ?_
        refine lv_iload hx hb dX0_changeControl_82 (lv_at hl 1 rfl) ?_
        refine gMi (As := [.int p1, .int x6]) (rest := []) (f := h_goOnWith (st.1, st.2.1, upd st.2.2.1 x2.toNatClampNeg (x9 &&& (hBit x2.toNatClampNeg)), st.2.2.2.1, st.2.2.2.2.1, st.2.2.2.2.2) p1 x6) ⟨hx, hb, hml, hown, hts⟩ (ch_goOnWith l dC dI cI h0 qme0 qre1 qco2 tN tB H.size (st.1, st.2.1, upd st.2.2.1 x2.toNatClampNeg (x9 &&& (hBit x2.toNatClampNeg)), st.2.2.2.1, st.2.2.2.2.1, st.2.2.2.2.2) p1 x6) (cwV 2 hts (gV mL_0_122 mI_0_goOnWith mX_0_goOnWith mN_0 mB_0_goOnWith) rfl rfl rfl (by decide +kernel) ⟨Nat.le_of_ble_eq_true rfl, Nat.le_of_ble_eq_true rfl⟩) hK hP hD hS hZ rfl hl.1 rfl (Nat.le_of_ble_eq_true rfl) dX0_changeControl_84 ⟨Nat.zero_le _, Nat.zero_le _⟩ (fun z10 ez10 H locs hP hD hS => ?_)
        have hP : va_P (dC, dI) vwCl (gW cI h0 qme0 qre1 qco2 z10.2) H := hP
        have hD : va_D (gA h0 qme0 qre1 qco2 s.heap.size) (gW cI h0 qme0 qre1 qco2 z10.2) := hD
        exact gZret (v := z10.1) (u := z10.2) hx hb hr hlocks (jnb (by rw [ez10]; exact hb_goOnWith (st.1, st.2.1, upd st.2.2.1 x2.toNatClampNeg (x9 &&& (hBit x2.toNatClampNeg)), st.2.2.2.1, st.2.2.2.2.1, st.2.2.2.2.2) p1 x6)) (by subst ez10 ex9 ex8 ex6 ex2 ex1; exact (((if_neg c3).trans ((if_pos c5).trans ((if_pos c7).trans rfl)))).symm) hK hP hD hS dX0_changeControl_87
      · refine lv_iload_n hx hb dX0_changeControl_41 rfl (lv_at hl 4 rfl) ?_
        refine lv_bipush (v := 15) hx hb dX0_changeControl_42 (by decide) ?_
        refine lv_iushr (v := jush p1 (15 : Int32)) hx hb dX0_changeControl_44 rfl ?_
        refine lv_bipush (v := 31) hx hb dX0_changeControl_45 (by decide) ?_
        refine lv_iand hx hb dX0_changeControl_47 ?_
        refine lv_goto (tgt := 56) hx hb dX0_changeControl_48 (by decide) ?_
        refine lv_topi (fun x11 ex11 => ?_)
        refine lv_istore (lv' := [(5, .int x11), (4, .int x6), (3, .int x2), (2, .int x1), (0, .ref h0), (1, .int p1)]) hx hb dX0_changeControl_56 hl (by decide) rfl (fun ls hl => ?_)
        refine lv_aload_n hx hb dX0_changeControl_58 rfl (lv_at hl 4 rfl) ?_
        refine va_get (D := (dC, dI)) (ci := 0) (v := .ref qco2) (C := "PagedHart") (T := TX0) (N := 6) hx hb hts mU0 hown hK hP 0 rfl rfl 2 (by decide) (hts _ mF_0_17) (fun _ h9 => h9) rfl dX0_changeControl_59 ?_
        refine lv_iload_n hx hb dX0_changeControl_62 rfl (lv_at hl 2 rfl) ?_
        refine lv_iload_n hx hb dX0_changeControl_63 rfl (lv_at hl 3 rfl) ?_
        refine lv_iconst (v := 3) hx hb dX0_changeControl_64 (by decide) ?_
        refine lv_iand hx hb dX0_changeControl_65 ?_
        refine lv_iload hx hb dX0_changeControl_66 (lv_at hl 1 rfl) ?_
        refine lv_iload hx hb dX0_changeControl_68 (lv_at hl 0 rfl) ?_
        refine W.callR (W.runS (As := [.int (x1 &&& (3 : Int32)), .int x6, .int x11]) (rest := [.int x2, .ref qco2]) ⟨hx, hb, hml, hown, hts⟩ (ch_changed l (x1 &&& (3 : Int32)) x6 x11) (cwS 3 hts (gS mL_0_212 mS_0_changed mN_0 mB_0_changed) rfl rfl rfl (by decide +kernel) ⟨Nat.le_of_ble_eq_true rfl, Nat.le_of_ble_eq_true rfl⟩) ⟨jblind, fun _ _ _ => ⟨rfl, trivial⟩⟩ rfl rfl hl.1 rfl (lv_room (Nat.le_of_ble_eq_true rfl)) dX0_changeControl_70 ⟨Nat.zero_le _, Nat.zero_le _⟩) ?_
        refine W.eq (g2 := F0 m 73 ls (.int (h_changed (x1 &&& (3 : Int32)) x6 x11) :: [.int x2, .ref qco2])) rfl ?_
        refine lv_topi (fun x12 ex12 => ?_)
        refine va_gets hx hb hZ.2.2.1 hS hown (hts _ mF_0_63) (fun _ h => h) dX0_changeControl_73 ?_
        refine lv_iload_n hx hb dX0_changeControl_76 rfl (lv_at hl 2 rfl) ?_
        refine va_ti hx hb hZ.2.2.2 hS (by rw [ex2]; exact h_in3 (by rw [← ex2]; exact c5)) (v := .int (hBit x2.toNatClampNeg)) rfl dX0_changeControl_77 ?_
        refine lv_iand hx hb dX0_changeControl_78 ?_
        refine va_iast (D := (dC, dI)) hx hb hK hP hD hS 3 0 rfl rfl (by rw [ex2]; exact h_in3 (by rw [← ex2]; exact c5)) dX0_changeControl_79 (fun H locs hP hD hS => ?_)
        have hP : va_P (dC, dI) vwCl (gW cI h0 qme0 qre1 qco2 (st.1, st.2.1, upd st.2.2.1 x2.toNatClampNeg (x12 &&& (hBit x2.toNatClampNeg)), st.2.2.2.1, st.2.2.2.2.1, st.2.2.2.2.2)) H := hP
        have hD : va_D (gA h0 qme0 qre1 qco2 s.heap.size) (gW cI h0 qme0 qre1 qco2 (st.1, st.2.1, upd st.2.2.1 x2.toNatClampNeg (x12 &&& (hBit x2.toNatClampNeg)), st.2.2.2.1, st.2.2.2.2.1, st.2.2.2.2.2)) := hD
        refine lv_aload_n hx hb dX0_changeControl_80 rfl (lv_at hl 4 rfl) ?_
        refine lv_iload_n hx hb dX0_changeControl_81 rfl (lv_at hl 5 rfl) ?_
        refine lv_iload hx hb dX0_changeControl_82 (lv_at hl 1 rfl) ?_
        refine gMi (As := [.int p1, .int x6]) (rest := []) (f := h_goOnWith (st.1, st.2.1, upd st.2.2.1 x2.toNatClampNeg (x12 &&& (hBit x2.toNatClampNeg)), st.2.2.2.1, st.2.2.2.2.1, st.2.2.2.2.2) p1 x6) ⟨hx, hb, hml, hown, hts⟩ (ch_goOnWith l dC dI cI h0 qme0 qre1 qco2 tN tB H.size (st.1, st.2.1, upd st.2.2.1 x2.toNatClampNeg (x12 &&& (hBit x2.toNatClampNeg)), st.2.2.2.1, st.2.2.2.2.1, st.2.2.2.2.2) p1 x6) (cwV 2 hts (gV mL_0_122 mI_0_goOnWith mX_0_goOnWith mN_0 mB_0_goOnWith) rfl rfl rfl (by decide +kernel) ⟨Nat.le_of_ble_eq_true rfl, Nat.le_of_ble_eq_true rfl⟩) hK hP hD hS hZ rfl hl.1 rfl (Nat.le_of_ble_eq_true rfl) dX0_changeControl_84 ⟨Nat.zero_le _, Nat.zero_le _⟩ (fun z13 ez13 H locs hP hD hS => ?_)
        have hP : va_P (dC, dI) vwCl (gW cI h0 qme0 qre1 qco2 z13.2) H := hP
        have hD : va_D (gA h0 qme0 qre1 qco2 s.heap.size) (gW cI h0 qme0 qre1 qco2 z13.2) := hD
        exact gZret (v := z13.1) (u := z13.2) hx hb hr hlocks (jnb (by rw [ez13]; exact hb_goOnWith (st.1, st.2.1, upd st.2.2.1 x2.toNatClampNeg (x12 &&& (hBit x2.toNatClampNeg)), st.2.2.2.1, st.2.2.2.2.1, st.2.2.2.2.2) p1 x6)) (by subst ez13 ex12 ex11 ex6 ex2 ex1; exact (((if_neg c3).trans ((if_pos c5).trans ((if_neg c7).trans rfl)))).symm) hK hP hD hS dX0_changeControl_87
    · refine lv_aload_n hx hb dX0_changeControl_22 rfl (lv_at hl 2 rfl) ?_
      refine lv_iload_n hx hb dX0_changeControl_23 rfl (lv_at hl 3 rfl) ?_
      refine gMi (As := [.int p1]) (rest := []) (f := h_refuse st p1) ⟨hx, hb, hml, hown, hts⟩ (ch_refuse l dC dI cI h0 qme0 qre1 qco2 tN tB H.size st p1) (cwV 1 hts (gV mL_0_140 mI_0_refuse mX_0_refuse mN_0 mB_0_refuse) rfl rfl rfl (by decide +kernel) ⟨Nat.le_of_ble_eq_true rfl, Nat.le_of_ble_eq_true rfl⟩) hK hP hD hS hZ rfl hl.1 rfl (Nat.le_of_ble_eq_true rfl) dX0_changeControl_24 ⟨Nat.zero_le _, Nat.zero_le _⟩ (fun z14 ez14 H locs hP hD hS => ?_)
      have hP : va_P (dC, dI) vwCl (gW cI h0 qme0 qre1 qco2 z14.2) H := hP
      have hD : va_D (gA h0 qme0 qre1 qco2 s.heap.size) (gW cI h0 qme0 qre1 qco2 z14.2) := hD
      exact gZret (v := z14.1) (u := z14.2) hx hb hr hlocks (jnb (by rw [ez14]; exact hb_refuse st p1)) (by subst ez14 ex2 ex1; exact (((if_neg c3).trans ((if_neg c5).trans rfl))).symm) hK hP hD hS dX0_changeControl_27
theorem hb_changeControl (st : HS) (p1 : Int32) : (h_changeControl st p1).1 = 0 ∨ (h_changeControl st p1).1 = 1 := by
  unfold h_changeControl
  try dsimp only
  (repeat' split) <;> first | with_reducible exact hb_trap _ _ _ | with_reducible exact hb_refuse _ _ | with_reducible exact hb_goOn _ | with_reducible exact hb_goOnWith _ _ _ | with_reducible exact hb_jump _ _ _ | with_reducible exact hb_branch _ _ | with_reducible exact hb_load _ _ | with_reducible exact hb_store _ _ | with_reducible exact hb_calculateWithNumber _ _ | with_reducible exact hb_calculateWithRegister _ _ | with_reducible exact hb_call _ | with_reducible exact hb_returnFromTrap _ | exact Or.inl rfl | exact Or.inr rfl

def h_performSystem (st : HS) (p1 : Int32) : Int32 × HS :=
  if p1 = (115 : Int32) then
    let z16 : Int32 × HS := h_call st
    z16
  else
    if p1 = (1048691 : Int32) then
      let z15 : Int32 × HS := h_trap st (3 : Int32) st.2.2.2.1
      z15
    else
      if st.2.2.2.2.1 = 0 then
        let z14 : Int32 × HS := h_refuse st p1
        z14
      else
        let x4 : Int32 := h_fOf p1
        if x4 = 0 then
          if p1 = (270532723 : Int32) then
            let z12 : Int32 × HS := h_returnFromTrap st
            z12
          else
            if p1 = (273678451 : Int32) then
              let z8 : Int32 × HS := h_goOn st
              z8
            else
              if (p1 &&& ((-33521665) : Int32)) = (301990003 : Int32) then
                let z11 : Int32 × HS := h_goOn st
                z11
              else
                let z10 : Int32 × HS := h_refuse st p1
                z10
        else
          let z13 : Int32 × HS := h_changeControl st p1
          z13
set_option maxHeartbeats 4000000 in
set_option maxRecDepth 100000 in
theorem ch_performSystem (l : Launch) (dC : Nat → ClassId) (dI : Nat → Nat → Nat) (cI h0 qme0 qre1 qco2 tN tB : Nat) (sz : Nat) (st : HS) (p1 : Int32)  : Met l yX0_performSystem (.code yX0_performSystem cX0_performSystem 2 (some .boolean) :: gBIG) ({ frames := 3, cells := 0, slots := 0, locals := 70 }) (va_Pc [.ref h0, .int p1] (gPre dC dI cI h0 qme0 qre1 qco2 tN tB sz st)) (va_Qi (fun r v => (r, v) = h_performSystem st p1) (gB dC dI cI h0 qme0 qre1 qco2 (gA h0 qme0 qre1 qco2 sz)) (gA h0 qme0 qre1 qco2 sz)) 0 0 (gA h0 qme0 qre1 qco2 sz) := by
  refine Met.ofW (cc := cX0_performSystem) (maxL := 2) (ret := (some .boolean)) (by decide) rfl ?_
  intro p e s m args below meth c s₁ B hml hv
  obtain ⟨rfl, hsz, hP, hK, hD0, hZ⟩ := hv
  have hx := B.exec
  have hb := B.bytes
  have hr := B.returns
  have hts : ∀ w ∈ gBIG, w.before _ s = true := fun w h => atoms_spec (ws := (.code yX0_performSystem cX0_performSystem 2 (some .boolean) :: gBIG)) B.pre w (List.mem_cons_of_mem _ h)
  have hown : s.vm.findClass "PagedHart" = some m.cls := findClass_of_methodNamed B.named
  have hlocks := B.notSynchronized
  subst hsz
  have hD : va_D (gA h0 qme0 qre1 qco2 s.heap.size) (gW cI h0 qme0 qre1 qco2 st) := gD hD0
  have hS : va_S (gA h0 qme0 qre1 qco2 s.heap.size) s.heap s.heap [] := va_S.rf
  have hP : va_P (dC, dI) vwCl (gW cI h0 qme0 qre1 qco2 st) s.heap := hP
  have hl := lv_entry ([.ref h0, .int p1]) (n := 2) (Nat.le_of_ble_eq_true rfl)
  rw [lg_entry_eq]
  generalize (lg_sl ([.ref h0, .int p1]) ++ List.replicate (2 - (lg_sl ([.ref h0, .int p1])).length) Slot.unset).toArray = ls at hl ⊢
  refine jgo (P := fun H locs => va_P (dC, dI) vwCl (gW cI h0 qme0 qre1 qco2 st) H ∧ va_S (gA h0 qme0 qre1 qco2 s.heap.size) s.heap H locs) ⟨hP, hS⟩ (fun H locs hPS => ?_)
  obtain ⟨hP, hS⟩ := hPS
  have hl : lv_has ls 2 [(0, .ref h0), (1, .int p1)] := hl
  refine lv_iload_n hx hb dX0_performSystem_0 rfl (lv_at hl 1 rfl) ?_
  refine lv_bipush (v := 115) hx hb dX0_performSystem_1 (by decide) ?_
  refine lv_icmp_ne (tgt := 11) hx hb dX0_performSystem_3 (by decide) (fun c1 => ?_) (fun c1 => ?_)
  · refine lv_iload_n hx hb dX0_performSystem_11 rfl (lv_at hl 1 rfl) ?_
    refine lv_ldc (v := 1048691) hx hb hown (hts _ mC_0_201) dX0_performSystem_12 ?_
    refine lv_icmp_ne (tgt := 27) hx hb dX0_performSystem_14 (by decide) (fun c2 => ?_) (fun c2 => ?_)
    · refine lv_aload_n hx hb dX0_performSystem_27 rfl (lv_at hl 0 rfl) ?_
      refine va_get (D := (dC, dI)) (ci := 0) (v := .int st.2.2.2.2.1) (C := "PagedHart") (T := TX0) (N := 6) hx hb hts mU0 hown hK hP 0 rfl rfl 4 (by decide) (hts _ mF_0_24) (fun _ h9 => h9) rfl dX0_performSystem_28 ?_
      refine lv_if_ne (tgt := 40) hx hb dX0_performSystem_31 (by decide) (fun c3 => ?_) (fun c3 => ?_)
      · refine lv_iload_n hx hb dX0_performSystem_40 rfl (lv_at hl 1 rfl) ?_
        refine W.callR (W.runS (As := [.int p1]) (rest := []) ⟨hx, hb, hml, hown, hts⟩ (ch_fOf l p1) (cwS 1 hts (gS mL_0_131 mS_0_fOf mN_0 mB_0_fOf) rfl rfl rfl (by decide +kernel) ⟨Nat.le_of_ble_eq_true rfl, Nat.le_of_ble_eq_true rfl⟩) ⟨jblind, fun _ _ _ => ⟨rfl, trivial⟩⟩ rfl rfl hl.1 rfl (lv_room (Nat.le_of_ble_eq_true rfl)) dX0_performSystem_41 ⟨Nat.zero_le _, Nat.zero_le _⟩) ?_
        refine W.eq (g2 := F0 m 44 ls (.int (h_fOf p1) :: [])) rfl ?_
        refine lv_topi (fun x4 ex4 => ?_)
        refine lv_if_eq (tgt := 53) hx hb dX0_performSystem_44 (by decide) (fun c5 => ?_) (fun c5 => ?_)
        · refine lv_iload_n hx hb dX0_performSystem_53 rfl (lv_at hl 1 rfl) ?_
          refine lv_ldc (v := 270532723) hx hb hown (hts _ mC_0_205) dX0_performSystem_54 ?_
          refine lv_icmp_ne (tgt := 64) hx hb dX0_performSystem_56 (by decide) (fun c6 => ?_) (fun c6 => ?_)
          · refine lv_iload_n hx hb dX0_performSystem_64 rfl (lv_at hl 1 rfl) ?_
            refine lv_ldc (v := 273678451) hx hb hown (hts _ mC_0_209) dX0_performSystem_65 ?_
            refine lv_icmp_eq (tgt := 79) hx hb dX0_performSystem_67 (by decide) (fun c7 => ?_) (fun c7 => ?_)
            · refine lv_aload_n hx hb dX0_performSystem_79 rfl (lv_at hl 0 rfl) ?_
              refine gMi (As := []) (rest := []) (f := h_goOn st) ⟨hx, hb, hml, hown, hts⟩ (ch_goOn l dC dI cI h0 qme0 qre1 qco2 tN tB H.size st ) (cwV 0 hts (gV mL_0_115 mI_0_goOn mX_0_goOn mN_0 mB_0_goOn) rfl rfl rfl (by decide +kernel) ⟨Nat.le_of_ble_eq_true rfl, Nat.le_of_ble_eq_true rfl⟩) hK hP hD hS hZ rfl hl.1 rfl (Nat.le_of_ble_eq_true rfl) dX0_performSystem_80 ⟨Nat.zero_le _, Nat.zero_le _⟩ (fun z8 ez8 H locs hP hD hS => ?_)
              have hP : va_P (dC, dI) vwCl (gW cI h0 qme0 qre1 qco2 z8.2) H := hP
              have hD : va_D (gA h0 qme0 qre1 qco2 s.heap.size) (gW cI h0 qme0 qre1 qco2 z8.2) := hD
              exact gZret (v := z8.1) (u := z8.2) hx hb hr hlocks (jnb (by rw [ez8]; exact hb_goOn st)) (by subst ez8 ex4; exact (((if_neg c1).trans ((if_neg c2).trans ((if_neg c3).trans ((if_pos c5).trans ((if_neg c6).trans ((if_pos c7).trans rfl))))))).symm) hK hP hD hS dX0_performSystem_83
            · refine lv_iload_n hx hb dX0_performSystem_70 rfl (lv_at hl 1 rfl) ?_
              refine lv_ldc (v := (-33521665)) hx hb hown (hts _ mC_0_210) dX0_performSystem_71 ?_
              refine lv_iand hx hb dX0_performSystem_73 ?_
              refine lv_ldc (v := 301990003) hx hb hown (hts _ mC_0_211) dX0_performSystem_74 ?_
              refine lv_icmp_ne (tgt := 84) hx hb dX0_performSystem_76 (by decide) (fun c9 => ?_) (fun c9 => ?_)
              · refine lv_aload_n hx hb dX0_performSystem_84 rfl (lv_at hl 0 rfl) ?_
                refine lv_iload_n hx hb dX0_performSystem_85 rfl (lv_at hl 1 rfl) ?_
                refine gMi (As := [.int p1]) (rest := []) (f := h_refuse st p1) ⟨hx, hb, hml, hown, hts⟩ (ch_refuse l dC dI cI h0 qme0 qre1 qco2 tN tB H.size st p1) (cwV 1 hts (gV mL_0_140 mI_0_refuse mX_0_refuse mN_0 mB_0_refuse) rfl rfl rfl (by decide +kernel) ⟨Nat.le_of_ble_eq_true rfl, Nat.le_of_ble_eq_true rfl⟩) hK hP hD hS hZ rfl hl.1 rfl (Nat.le_of_ble_eq_true rfl) dX0_performSystem_86 ⟨Nat.zero_le _, Nat.zero_le _⟩ (fun z10 ez10 H locs hP hD hS => ?_)
                have hP : va_P (dC, dI) vwCl (gW cI h0 qme0 qre1 qco2 z10.2) H := hP
                have hD : va_D (gA h0 qme0 qre1 qco2 s.heap.size) (gW cI h0 qme0 qre1 qco2 z10.2) := hD
                exact gZret (v := z10.1) (u := z10.2) hx hb hr hlocks (jnb (by rw [ez10]; exact hb_refuse st p1)) (by subst ez10 ex4; exact (((if_neg c1).trans ((if_neg c2).trans ((if_neg c3).trans ((if_pos c5).trans ((if_neg c6).trans ((if_neg c7).trans ((if_neg c9).trans rfl)))))))).symm) hK hP hD hS dX0_performSystem_89
              · refine lv_aload_n hx hb dX0_performSystem_79 rfl (lv_at hl 0 rfl) ?_
                refine gMi (As := []) (rest := []) (f := h_goOn st) ⟨hx, hb, hml, hown, hts⟩ (ch_goOn l dC dI cI h0 qme0 qre1 qco2 tN tB H.size st ) (cwV 0 hts (gV mL_0_115 mI_0_goOn mX_0_goOn mN_0 mB_0_goOn) rfl rfl rfl (by decide +kernel) ⟨Nat.le_of_ble_eq_true rfl, Nat.le_of_ble_eq_true rfl⟩) hK hP hD hS hZ rfl hl.1 rfl (Nat.le_of_ble_eq_true rfl) dX0_performSystem_80 ⟨Nat.zero_le _, Nat.zero_le _⟩ (fun z11 ez11 H locs hP hD hS => ?_)
                have hP : va_P (dC, dI) vwCl (gW cI h0 qme0 qre1 qco2 z11.2) H := hP
                have hD : va_D (gA h0 qme0 qre1 qco2 s.heap.size) (gW cI h0 qme0 qre1 qco2 z11.2) := hD
                exact gZret (v := z11.1) (u := z11.2) hx hb hr hlocks (jnb (by rw [ez11]; exact hb_goOn st)) (by subst ez11 ex4; exact (((if_neg c1).trans ((if_neg c2).trans ((if_neg c3).trans ((if_pos c5).trans ((if_neg c6).trans ((if_neg c7).trans ((if_pos c9).trans rfl)))))))).symm) hK hP hD hS dX0_performSystem_83
          · refine lv_aload_n hx hb dX0_performSystem_59 rfl (lv_at hl 0 rfl) ?_
            refine gMi (As := []) (rest := []) (f := h_returnFromTrap st) ⟨hx, hb, hml, hown, hts⟩ (ch_returnFromTrap l dC dI cI h0 qme0 qre1 qco2 tN tB H.size st ) (cwV 0 hts (gV mL_0_206 mI_0_returnFromTrap mX_0_returnFromTrap mN_0 mB_0_returnFromTrap) rfl rfl rfl (by decide +kernel) ⟨Nat.le_of_ble_eq_true rfl, Nat.le_of_ble_eq_true rfl⟩) hK hP hD hS hZ rfl hl.1 rfl (Nat.le_of_ble_eq_true rfl) dX0_performSystem_60 ⟨Nat.zero_le _, Nat.zero_le _⟩ (fun z12 ez12 H locs hP hD hS => ?_)
            have hP : va_P (dC, dI) vwCl (gW cI h0 qme0 qre1 qco2 z12.2) H := hP
            have hD : va_D (gA h0 qme0 qre1 qco2 s.heap.size) (gW cI h0 qme0 qre1 qco2 z12.2) := hD
            exact gZret (v := z12.1) (u := z12.2) hx hb hr hlocks (jnb (by rw [ez12]; exact hb_returnFromTrap st)) (by subst ez12 ex4; exact (((if_neg c1).trans ((if_neg c2).trans ((if_neg c3).trans ((if_pos c5).trans ((if_pos c6).trans rfl)))))).symm) hK hP hD hS dX0_performSystem_63
        · refine lv_aload_n hx hb dX0_performSystem_47 rfl (lv_at hl 0 rfl) ?_
          refine lv_iload_n hx hb dX0_performSystem_48 rfl (lv_at hl 1 rfl) ?_
          refine gMi (As := [.int p1]) (rest := []) (f := h_changeControl st p1) ⟨hx, hb, hml, hown, hts⟩ (ch_changeControl l dC dI cI h0 qme0 qre1 qco2 tN tB H.size st p1) (cwV 1 hts (gV mL_0_202 mI_0_changeControl mX_0_changeControl mN_0 mB_0_changeControl) rfl rfl rfl (by decide +kernel) ⟨Nat.le_of_ble_eq_true rfl, Nat.le_of_ble_eq_true rfl⟩) hK hP hD hS hZ rfl hl.1 rfl (Nat.le_of_ble_eq_true rfl) dX0_performSystem_49 ⟨Nat.zero_le _, Nat.zero_le _⟩ (fun z13 ez13 H locs hP hD hS => ?_)
          have hP : va_P (dC, dI) vwCl (gW cI h0 qme0 qre1 qco2 z13.2) H := hP
          have hD : va_D (gA h0 qme0 qre1 qco2 s.heap.size) (gW cI h0 qme0 qre1 qco2 z13.2) := hD
          exact gZret (v := z13.1) (u := z13.2) hx hb hr hlocks (jnb (by rw [ez13]; exact hb_changeControl st p1)) (by subst ez13 ex4; exact (((if_neg c1).trans ((if_neg c2).trans ((if_neg c3).trans ((if_neg c5).trans rfl))))).symm) hK hP hD hS dX0_performSystem_52
      · refine lv_aload_n hx hb dX0_performSystem_34 rfl (lv_at hl 0 rfl) ?_
        refine lv_iload_n hx hb dX0_performSystem_35 rfl (lv_at hl 1 rfl) ?_
        refine gMi (As := [.int p1]) (rest := []) (f := h_refuse st p1) ⟨hx, hb, hml, hown, hts⟩ (ch_refuse l dC dI cI h0 qme0 qre1 qco2 tN tB H.size st p1) (cwV 1 hts (gV mL_0_140 mI_0_refuse mX_0_refuse mN_0 mB_0_refuse) rfl rfl rfl (by decide +kernel) ⟨Nat.le_of_ble_eq_true rfl, Nat.le_of_ble_eq_true rfl⟩) hK hP hD hS hZ rfl hl.1 rfl (Nat.le_of_ble_eq_true rfl) dX0_performSystem_36 ⟨Nat.zero_le _, Nat.zero_le _⟩ (fun z14 ez14 H locs hP hD hS => ?_)
        have hP : va_P (dC, dI) vwCl (gW cI h0 qme0 qre1 qco2 z14.2) H := hP
        have hD : va_D (gA h0 qme0 qre1 qco2 s.heap.size) (gW cI h0 qme0 qre1 qco2 z14.2) := hD
        exact gZret (v := z14.1) (u := z14.2) hx hb hr hlocks (jnb (by rw [ez14]; exact hb_refuse st p1)) (by subst ez14; exact (((if_neg c1).trans ((if_neg c2).trans ((if_pos c3).trans rfl)))).symm) hK hP hD hS dX0_performSystem_39
    · refine lv_aload_n hx hb dX0_performSystem_17 rfl (lv_at hl 0 rfl) ?_
      refine lv_iconst (v := 3) hx hb dX0_performSystem_18 (by decide) ?_
      refine lv_aload_n hx hb dX0_performSystem_19 rfl (lv_at hl 0 rfl) ?_
      refine va_get (D := (dC, dI)) (ci := 0) (v := .int st.2.2.2.1) (C := "PagedHart") (T := TX0) (N := 6) hx hb hts mU0 hown hK hP 0 rfl rfl 3 (by decide) (hts _ mF_0_20) (fun _ h9 => h9) rfl dX0_performSystem_20 ?_
      refine gMi (As := [.int 3, .int st.2.2.2.1]) (rest := []) (f := h_trap st (3 : Int32) st.2.2.2.1) ⟨hx, hb, hml, hown, hts⟩ (ch_trap l dC dI cI h0 qme0 qre1 qco2 tN tB H.size st (3 : Int32) st.2.2.2.1) (cwV 2 hts (gV mL_0_96 mI_0_trap mX_0_trap mN_0 mB_0_trap) rfl rfl rfl (by decide +kernel) ⟨Nat.le_of_ble_eq_true rfl, Nat.le_of_ble_eq_true rfl⟩) hK hP hD hS hZ rfl hl.1 rfl (Nat.le_of_ble_eq_true rfl) dX0_performSystem_23 ⟨Nat.zero_le _, Nat.zero_le _⟩ (fun z15 ez15 H locs hP hD hS => ?_)
      have hP : va_P (dC, dI) vwCl (gW cI h0 qme0 qre1 qco2 z15.2) H := hP
      have hD : va_D (gA h0 qme0 qre1 qco2 s.heap.size) (gW cI h0 qme0 qre1 qco2 z15.2) := hD
      exact gZret (v := z15.1) (u := z15.2) hx hb hr hlocks (jnb (by rw [ez15]; exact hb_trap st (3 : Int32) st.2.2.2.1)) (by subst ez15; exact (((if_neg c1).trans ((if_pos c2).trans rfl))).symm) hK hP hD hS dX0_performSystem_26
  · refine lv_aload_n hx hb dX0_performSystem_6 rfl (lv_at hl 0 rfl) ?_
    refine gMi (As := []) (rest := []) (f := h_call st) ⟨hx, hb, hml, hown, hts⟩ (ch_call l dC dI cI h0 qme0 qre1 qco2 tN tB H.size st ) (cwV 0 hts (gV mL_0_198 mI_0_call mX_0_call mN_0 mB_0_call) rfl rfl rfl (by decide +kernel) ⟨Nat.le_of_ble_eq_true rfl, Nat.le_of_ble_eq_true rfl⟩) hK hP hD hS hZ rfl hl.1 rfl (Nat.le_of_ble_eq_true rfl) dX0_performSystem_7 ⟨Nat.zero_le _, Nat.zero_le _⟩ (fun z16 ez16 H locs hP hD hS => ?_)
    have hP : va_P (dC, dI) vwCl (gW cI h0 qme0 qre1 qco2 z16.2) H := hP
    have hD : va_D (gA h0 qme0 qre1 qco2 s.heap.size) (gW cI h0 qme0 qre1 qco2 z16.2) := hD
    exact gZret (v := z16.1) (u := z16.2) hx hb hr hlocks (jnb (by rw [ez16]; exact hb_call st)) (by subst ez16; exact (((if_pos c1).trans rfl)).symm) hK hP hD hS dX0_performSystem_10
theorem hb_performSystem (st : HS) (p1 : Int32) : (h_performSystem st p1).1 = 0 ∨ (h_performSystem st p1).1 = 1 := by
  unfold h_performSystem
  try dsimp only
  (repeat' split) <;> first | with_reducible exact hb_trap _ _ _ | with_reducible exact hb_refuse _ _ | with_reducible exact hb_goOn _ | with_reducible exact hb_goOnWith _ _ _ | with_reducible exact hb_jump _ _ _ | with_reducible exact hb_branch _ _ | with_reducible exact hb_load _ _ | with_reducible exact hb_store _ _ | with_reducible exact hb_calculateWithNumber _ _ | with_reducible exact hb_calculateWithRegister _ _ | with_reducible exact hb_call _ | with_reducible exact hb_returnFromTrap _ | with_reducible exact hb_changeControl _ _ | exact Or.inl rfl | exact Or.inr rfl

def h_perform (st : HS) (p1 : Int32) : Int32 × HS :=
  if (p1 &&& (127 : Int32)) = 3 then
    let z2 : Int32 × HS := h_load st p1
    z2
  else
    if (p1 &&& (127 : Int32)) = 15 then
      let x4 : Int32 := h_fOf p1
      if x4 = 0 then
        let z7 : Int32 × HS := h_goOn st
        z7
      else
        let z6 : Int32 × HS := h_refuse st p1
        z6
    else
      if (p1 &&& (127 : Int32)) = 19 then
        let z9 : Int32 × HS := h_calculateWithNumber st p1
        z9
      else
        if (p1 &&& (127 : Int32)) = 23 then
          let x11 : Int32 := h_uOf p1
          let z12 : Int32 × HS := h_goOnWith st p1 (st.2.2.2.1 + x11)
          z12
        else
          if (p1 &&& (127 : Int32)) = 35 then
            let z14 : Int32 × HS := h_store st p1
            z14
          else
            if (p1 &&& (127 : Int32)) = 51 then
              let z16 : Int32 × HS := h_calculateWithRegister st p1
              z16
            else
              if (p1 &&& (127 : Int32)) = 55 then
                let x18 : Int32 := h_uOf p1
                let z19 : Int32 × HS := h_goOnWith st p1 x18
                z19
              else
                if (p1 &&& (127 : Int32)) = 99 then
                  let z21 : Int32 × HS := h_branch st p1
                  z21
                else
                  if (p1 &&& (127 : Int32)) = 103 then
                    let x23 : Int32 := h_fOf p1
                    if x23 = 0 then
                      let x26 : Int32 := h_aOf st p1
                      let x27 : Int32 := h_iOf p1
                      let z28 : Int32 × HS := h_jump st p1 ((x26 + x27) &&& ((-2) : Int32))
                      z28
                    else
                      let z25 : Int32 × HS := h_refuse st p1
                      z25
                  else
                    if (p1 &&& (127 : Int32)) = 111 then
                      let x30 : Int32 := h_jumpDistance p1
                      let z31 : Int32 × HS := h_jump st p1 (st.2.2.2.1 + x30)
                      z31
                    else
                      if (p1 &&& (127 : Int32)) = 115 then
                        let z33 : Int32 × HS := h_performSystem st p1
                        z33
                      else
                        let z34 : Int32 × HS := h_refuse st p1
                        z34
set_option maxHeartbeats 4000000 in
set_option maxRecDepth 100000 in
theorem ch_perform (l : Launch) (dC : Nat → ClassId) (dI : Nat → Nat → Nat) (cI h0 qme0 qre1 qco2 tN tB : Nat) (sz : Nat) (st : HS) (p1 : Int32)  : Met l yX0_perform (.code yX0_perform cX0_perform 2 (some .boolean) :: gBIG) ({ frames := 4, cells := 0, slots := 0, locals := 101 }) (va_Pc [.ref h0, .int p1] (gPre dC dI cI h0 qme0 qre1 qco2 tN tB sz st)) (va_Qi (fun r v => (r, v) = h_perform st p1) (gB dC dI cI h0 qme0 qre1 qco2 (gA h0 qme0 qre1 qco2 sz)) (gA h0 qme0 qre1 qco2 sz)) 0 0 (gA h0 qme0 qre1 qco2 sz) := by
  refine Met.ofW (cc := cX0_perform) (maxL := 2) (ret := (some .boolean)) (by decide) rfl ?_
  intro p e s m args below meth c s₁ B hml hv
  obtain ⟨rfl, hsz, hP, hK, hD0, hZ⟩ := hv
  have hx := B.exec
  have hb := B.bytes
  have hr := B.returns
  have hts : ∀ w ∈ gBIG, w.before _ s = true := fun w h => atoms_spec (ws := (.code yX0_perform cX0_perform 2 (some .boolean) :: gBIG)) B.pre w (List.mem_cons_of_mem _ h)
  have hown : s.vm.findClass "PagedHart" = some m.cls := findClass_of_methodNamed B.named
  have hlocks := B.notSynchronized
  subst hsz
  have hD : va_D (gA h0 qme0 qre1 qco2 s.heap.size) (gW cI h0 qme0 qre1 qco2 st) := gD hD0
  have hS : va_S (gA h0 qme0 qre1 qco2 s.heap.size) s.heap s.heap [] := va_S.rf
  have hP : va_P (dC, dI) vwCl (gW cI h0 qme0 qre1 qco2 st) s.heap := hP
  have hl := lv_entry ([.ref h0, .int p1]) (n := 2) (Nat.le_of_ble_eq_true rfl)
  rw [lg_entry_eq]
  generalize (lg_sl ([.ref h0, .int p1]) ++ List.replicate (2 - (lg_sl ([.ref h0, .int p1])).length) Slot.unset).toArray = ls at hl ⊢
  refine jgo (P := fun H locs => va_P (dC, dI) vwCl (gW cI h0 qme0 qre1 qco2 st) H ∧ va_S (gA h0 qme0 qre1 qco2 s.heap.size) s.heap H locs) ⟨hP, hS⟩ (fun H locs hPS => ?_)
  obtain ⟨hP, hS⟩ := hPS
  have hl : lv_has ls 2 [(0, .ref h0), (1, .int p1)] := hl
  refine lv_iload_n hx hb dX0_perform_0 rfl (lv_at hl 1 rfl) ?_
  refine lv_bipush (v := 127) hx hb dX0_perform_1 (by decide) ?_
  refine lv_iand hx hb dX0_perform_3 ?_
  by_cases c1 : (p1 &&& (127 : Int32)) = 3
  · refine lv_lookup (tgt := 184) (off := 180) hx hb dX0_perform_4 (by decide) (by rw [c1]; decide) (by decide) ?_
    refine lv_aload_n hx hb dX0_perform_184 rfl (lv_at hl 0 rfl) ?_
    refine lv_iload_n hx hb dX0_perform_185 rfl (lv_at hl 1 rfl) ?_
    refine gMi (As := [.int p1]) (rest := []) (f := h_load st p1) ⟨hx, hb, hml, hown, hts⟩ (ch_load l dC dI cI h0 qme0 qre1 qco2 tN tB H.size st p1) (cwV 1 hts (gV mL_0_146 mI_0_load mX_0_load mN_0 mB_0_load) rfl rfl rfl (by decide +kernel) ⟨Nat.le_of_ble_eq_true rfl, Nat.le_of_ble_eq_true rfl⟩) hK hP hD hS hZ rfl hl.1 rfl (Nat.le_of_ble_eq_true rfl) dX0_perform_186 ⟨Nat.zero_le _, Nat.zero_le _⟩ (fun z2 ez2 H locs hP hD hS => ?_)
    have hP : va_P (dC, dI) vwCl (gW cI h0 qme0 qre1 qco2 z2.2) H := hP
    have hD : va_D (gA h0 qme0 qre1 qco2 s.heap.size) (gW cI h0 qme0 qre1 qco2 z2.2) := hD
    exact gZret (v := z2.1) (u := z2.2) hx hb hr hlocks (jnb (by rw [ez2]; exact hb_load st p1)) (by subst ez2; exact (((if_pos c1).trans rfl)).symm) hK hP hD hS dX0_perform_189
  by_cases c3 : (p1 &&& (127 : Int32)) = 15
  · refine lv_lookup (tgt := 208) (off := 204) hx hb dX0_perform_4 (by decide) (by rw [c3]; decide) (by decide) ?_
    refine lv_iload_n hx hb dX0_perform_208 rfl (lv_at hl 1 rfl) ?_
    refine W.callR (W.runS (As := [.int p1]) (rest := []) ⟨hx, hb, hml, hown, hts⟩ (ch_fOf l p1) (cwS 1 hts (gS mL_0_131 mS_0_fOf mN_0 mB_0_fOf) rfl rfl rfl (by decide +kernel) ⟨Nat.le_of_ble_eq_true rfl, Nat.le_of_ble_eq_true rfl⟩) ⟨jblind, fun _ _ _ => ⟨rfl, trivial⟩⟩ rfl rfl hl.1 rfl (lv_room (Nat.le_of_ble_eq_true rfl)) dX0_perform_209 ⟨Nat.zero_le _, Nat.zero_le _⟩) ?_
    refine W.eq (g2 := F0 m 212 ls (.int (h_fOf p1) :: [])) rfl ?_
    refine lv_topi (fun x4 ex4 => ?_)
    refine lv_if_ne (tgt := 222) hx hb dX0_perform_212 (by decide) (fun c5 => ?_) (fun c5 => ?_)
    · refine lv_aload_n hx hb dX0_perform_222 rfl (lv_at hl 0 rfl) ?_
      refine lv_iload_n hx hb dX0_perform_223 rfl (lv_at hl 1 rfl) ?_
      refine gMi (As := [.int p1]) (rest := []) (f := h_refuse st p1) ⟨hx, hb, hml, hown, hts⟩ (ch_refuse l dC dI cI h0 qme0 qre1 qco2 tN tB H.size st p1) (cwV 1 hts (gV mL_0_140 mI_0_refuse mX_0_refuse mN_0 mB_0_refuse) rfl rfl rfl (by decide +kernel) ⟨Nat.le_of_ble_eq_true rfl, Nat.le_of_ble_eq_true rfl⟩) hK hP hD hS hZ rfl hl.1 rfl (Nat.le_of_ble_eq_true rfl) dX0_perform_224 ⟨Nat.zero_le _, Nat.zero_le _⟩ (fun z6 ez6 H locs hP hD hS => ?_)
      have hP : va_P (dC, dI) vwCl (gW cI h0 qme0 qre1 qco2 z6.2) H := hP
      have hD : va_D (gA h0 qme0 qre1 qco2 s.heap.size) (gW cI h0 qme0 qre1 qco2 z6.2) := hD
      exact gZret (v := z6.1) (u := z6.2) hx hb hr hlocks (jnb (by rw [ez6]; exact hb_refuse st p1)) (by subst ez6 ex4; exact (((if_neg c1).trans ((if_pos c3).trans ((if_neg c5).trans rfl)))).symm) hK hP hD hS dX0_perform_227
    · refine lv_aload_n hx hb dX0_perform_215 rfl (lv_at hl 0 rfl) ?_
      refine gMi (As := []) (rest := []) (f := h_goOn st) ⟨hx, hb, hml, hown, hts⟩ (ch_goOn l dC dI cI h0 qme0 qre1 qco2 tN tB H.size st ) (cwV 0 hts (gV mL_0_115 mI_0_goOn mX_0_goOn mN_0 mB_0_goOn) rfl rfl rfl (by decide +kernel) ⟨Nat.le_of_ble_eq_true rfl, Nat.le_of_ble_eq_true rfl⟩) hK hP hD hS hZ rfl hl.1 rfl (Nat.le_of_ble_eq_true rfl) dX0_perform_216 ⟨Nat.zero_le _, Nat.zero_le _⟩ (fun z7 ez7 H locs hP hD hS => ?_)
      have hP : va_P (dC, dI) vwCl (gW cI h0 qme0 qre1 qco2 z7.2) H := hP
      have hD : va_D (gA h0 qme0 qre1 qco2 s.heap.size) (gW cI h0 qme0 qre1 qco2 z7.2) := hD
      refine lv_goto (tgt := 227) hx hb dX0_perform_219 (by decide) ?_
      exact gZret (v := z7.1) (u := z7.2) hx hb hr hlocks (jnb (by rw [ez7]; exact hb_goOn st)) (by subst ez7 ex4; exact (((if_neg c1).trans ((if_pos c3).trans ((if_pos c5).trans rfl)))).symm) hK hP hD hS dX0_perform_227
  by_cases c8 : (p1 &&& (127 : Int32)) = 19
  · refine lv_lookup (tgt := 196) (off := 192) hx hb dX0_perform_4 (by decide) (by rw [c8]; decide) (by decide) ?_
    refine lv_aload_n hx hb dX0_perform_196 rfl (lv_at hl 0 rfl) ?_
    refine lv_iload_n hx hb dX0_perform_197 rfl (lv_at hl 1 rfl) ?_
    refine gMi (As := [.int p1]) (rest := []) (f := h_calculateWithNumber st p1) ⟨hx, hb, hml, hown, hts⟩ (ch_calculateWithNumber l dC dI cI h0 qme0 qre1 qco2 tN tB H.size st p1) (cwV 1 hts (gV mL_0_152 mI_0_calculateWithNumber mX_0_calculateWithNumber mN_0 mB_0_calculateWithNumber) rfl rfl rfl (by decide +kernel) ⟨Nat.le_of_ble_eq_true rfl, Nat.le_of_ble_eq_true rfl⟩) hK hP hD hS hZ rfl hl.1 rfl (Nat.le_of_ble_eq_true rfl) dX0_perform_198 ⟨Nat.zero_le _, Nat.zero_le _⟩ (fun z9 ez9 H locs hP hD hS => ?_)
    have hP : va_P (dC, dI) vwCl (gW cI h0 qme0 qre1 qco2 z9.2) H := hP
    have hD : va_D (gA h0 qme0 qre1 qco2 s.heap.size) (gW cI h0 qme0 qre1 qco2 z9.2) := hD
    exact gZret (v := z9.1) (u := z9.2) hx hb hr hlocks (jnb (by rw [ez9]; exact hb_calculateWithNumber st p1)) (by subst ez9; exact (((if_neg c1).trans ((if_neg c3).trans ((if_pos c8).trans rfl)))).symm) hK hP hD hS dX0_perform_201
  by_cases c10 : (p1 &&& (127 : Int32)) = 23
  · refine lv_lookup (tgt := 114) (off := 110) hx hb dX0_perform_4 (by decide) (by rw [c10]; decide) (by decide) ?_
    refine lv_aload_n hx hb dX0_perform_114 rfl (lv_at hl 0 rfl) ?_
    refine lv_iload_n hx hb dX0_perform_115 rfl (lv_at hl 1 rfl) ?_
    refine lv_aload_n hx hb dX0_perform_116 rfl (lv_at hl 0 rfl) ?_
    refine va_get (D := (dC, dI)) (ci := 0) (v := .int st.2.2.2.1) (C := "PagedHart") (T := TX0) (N := 6) hx hb hts mU0 hown hK hP 0 rfl rfl 3 (by decide) (hts _ mF_0_20) (fun _ h9 => h9) rfl dX0_perform_117 ?_
    refine lv_iload_n hx hb dX0_perform_120 rfl (lv_at hl 1 rfl) ?_
    refine W.callR (W.runS (As := [.int p1]) (rest := [.int st.2.2.2.1, .int p1, .ref h0]) ⟨hx, hb, hml, hown, hts⟩ (ch_uOf l p1) (cwS 1 hts (gS mL_0_119 mS_0_uOf mN_0 mB_0_uOf) rfl rfl rfl (by decide +kernel) ⟨Nat.le_of_ble_eq_true rfl, Nat.le_of_ble_eq_true rfl⟩) ⟨jblind, fun _ _ _ => ⟨rfl, trivial⟩⟩ rfl rfl hl.1 rfl (lv_room (Nat.le_of_ble_eq_true rfl)) dX0_perform_121 ⟨Nat.zero_le _, Nat.zero_le _⟩) ?_
    refine W.eq (g2 := F0 m 124 ls (.int (h_uOf p1) :: [.int st.2.2.2.1, .int p1, .ref h0])) rfl ?_
    refine lv_topi (fun x11 ex11 => ?_)
    refine lv_iadd hx hb dX0_perform_124 ?_
    refine gMi (As := [.int p1, .int (st.2.2.2.1 + x11)]) (rest := []) (f := h_goOnWith st p1 (st.2.2.2.1 + x11)) ⟨hx, hb, hml, hown, hts⟩ (ch_goOnWith l dC dI cI h0 qme0 qre1 qco2 tN tB H.size st p1 (st.2.2.2.1 + x11)) (cwV 2 hts (gV mL_0_122 mI_0_goOnWith mX_0_goOnWith mN_0 mB_0_goOnWith) rfl rfl rfl (by decide +kernel) ⟨Nat.le_of_ble_eq_true rfl, Nat.le_of_ble_eq_true rfl⟩) hK hP hD hS hZ rfl hl.1 rfl (Nat.le_of_ble_eq_true rfl) dX0_perform_125 ⟨Nat.zero_le _, Nat.zero_le _⟩ (fun z12 ez12 H locs hP hD hS => ?_)
    have hP : va_P (dC, dI) vwCl (gW cI h0 qme0 qre1 qco2 z12.2) H := hP
    have hD : va_D (gA h0 qme0 qre1 qco2 s.heap.size) (gW cI h0 qme0 qre1 qco2 z12.2) := hD
    exact gZret (v := z12.1) (u := z12.2) hx hb hr hlocks (jnb (by rw [ez12]; exact hb_goOnWith st p1 (st.2.2.2.1 + x11))) (by subst ez12 ex11; exact (((if_neg c1).trans ((if_neg c3).trans ((if_neg c8).trans ((if_pos c10).trans rfl))))).symm) hK hP hD hS dX0_perform_128
  by_cases c13 : (p1 &&& (127 : Int32)) = 35
  · refine lv_lookup (tgt := 190) (off := 186) hx hb dX0_perform_4 (by decide) (by rw [c13]; decide) (by decide) ?_
    refine lv_aload_n hx hb dX0_perform_190 rfl (lv_at hl 0 rfl) ?_
    refine lv_iload_n hx hb dX0_perform_191 rfl (lv_at hl 1 rfl) ?_
    refine gMi (As := [.int p1]) (rest := []) (f := h_store st p1) ⟨hx, hb, hml, hown, hts⟩ (ch_store l dC dI cI h0 qme0 qre1 qco2 tN tB H.size st p1) (cwV 1 hts (gV mL_0_149 mI_0_store mX_0_store mN_0 mB_0_store) rfl rfl rfl (by decide +kernel) ⟨Nat.le_of_ble_eq_true rfl, Nat.le_of_ble_eq_true rfl⟩) hK hP hD hS hZ rfl hl.1 rfl (Nat.le_of_ble_eq_true rfl) dX0_perform_192 ⟨Nat.zero_le _, Nat.zero_le _⟩ (fun z14 ez14 H locs hP hD hS => ?_)
    have hP : va_P (dC, dI) vwCl (gW cI h0 qme0 qre1 qco2 z14.2) H := hP
    have hD : va_D (gA h0 qme0 qre1 qco2 s.heap.size) (gW cI h0 qme0 qre1 qco2 z14.2) := hD
    exact gZret (v := z14.1) (u := z14.2) hx hb hr hlocks (jnb (by rw [ez14]; exact hb_store st p1)) (by subst ez14; exact (((if_neg c1).trans ((if_neg c3).trans ((if_neg c8).trans ((if_neg c10).trans ((if_pos c13).trans rfl)))))).symm) hK hP hD hS dX0_perform_195
  by_cases c15 : (p1 &&& (127 : Int32)) = 51
  · refine lv_lookup (tgt := 202) (off := 198) hx hb dX0_perform_4 (by decide) (by rw [c15]; decide) (by decide) ?_
    refine lv_aload_n hx hb dX0_perform_202 rfl (lv_at hl 0 rfl) ?_
    refine lv_iload_n hx hb dX0_perform_203 rfl (lv_at hl 1 rfl) ?_
    refine gMi (As := [.int p1]) (rest := []) (f := h_calculateWithRegister st p1) ⟨hx, hb, hml, hown, hts⟩ (ch_calculateWithRegister l dC dI cI h0 qme0 qre1 qco2 tN tB H.size st p1) (cwV 1 hts (gV mL_0_155 mI_0_calculateWithRegister mX_0_calculateWithRegister mN_0 mB_0_calculateWithRegister) rfl rfl rfl (by decide +kernel) ⟨Nat.le_of_ble_eq_true rfl, Nat.le_of_ble_eq_true rfl⟩) hK hP hD hS hZ rfl hl.1 rfl (Nat.le_of_ble_eq_true rfl) dX0_perform_204 ⟨Nat.zero_le _, Nat.zero_le _⟩ (fun z16 ez16 H locs hP hD hS => ?_)
    have hP : va_P (dC, dI) vwCl (gW cI h0 qme0 qre1 qco2 z16.2) H := hP
    have hD : va_D (gA h0 qme0 qre1 qco2 s.heap.size) (gW cI h0 qme0 qre1 qco2 z16.2) := hD
    exact gZret (v := z16.1) (u := z16.2) hx hb hr hlocks (jnb (by rw [ez16]; exact hb_calculateWithRegister st p1)) (by subst ez16; exact (((if_neg c1).trans ((if_neg c3).trans ((if_neg c8).trans ((if_neg c10).trans ((if_neg c13).trans ((if_pos c15).trans rfl))))))).symm) hK hP hD hS dX0_perform_207
  by_cases c17 : (p1 &&& (127 : Int32)) = 55
  · refine lv_lookup (tgt := 104) (off := 100) hx hb dX0_perform_4 (by decide) (by rw [c17]; decide) (by decide) ?_
    refine lv_aload_n hx hb dX0_perform_104 rfl (lv_at hl 0 rfl) ?_
    refine lv_iload_n hx hb dX0_perform_105 rfl (lv_at hl 1 rfl) ?_
    refine lv_iload_n hx hb dX0_perform_106 rfl (lv_at hl 1 rfl) ?_
    refine W.callR (W.runS (As := [.int p1]) (rest := [.int p1, .ref h0]) ⟨hx, hb, hml, hown, hts⟩ (ch_uOf l p1) (cwS 1 hts (gS mL_0_119 mS_0_uOf mN_0 mB_0_uOf) rfl rfl rfl (by decide +kernel) ⟨Nat.le_of_ble_eq_true rfl, Nat.le_of_ble_eq_true rfl⟩) ⟨jblind, fun _ _ _ => ⟨rfl, trivial⟩⟩ rfl rfl hl.1 rfl (lv_room (Nat.le_of_ble_eq_true rfl)) dX0_perform_107 ⟨Nat.zero_le _, Nat.zero_le _⟩) ?_
    refine W.eq (g2 := F0 m 110 ls (.int (h_uOf p1) :: [.int p1, .ref h0])) rfl ?_
    refine lv_topi (fun x18 ex18 => ?_)
    refine gMi (As := [.int p1, .int x18]) (rest := []) (f := h_goOnWith st p1 x18) ⟨hx, hb, hml, hown, hts⟩ (ch_goOnWith l dC dI cI h0 qme0 qre1 qco2 tN tB H.size st p1 x18) (cwV 2 hts (gV mL_0_122 mI_0_goOnWith mX_0_goOnWith mN_0 mB_0_goOnWith) rfl rfl rfl (by decide +kernel) ⟨Nat.le_of_ble_eq_true rfl, Nat.le_of_ble_eq_true rfl⟩) hK hP hD hS hZ rfl hl.1 rfl (Nat.le_of_ble_eq_true rfl) dX0_perform_110 ⟨Nat.zero_le _, Nat.zero_le _⟩ (fun z19 ez19 H locs hP hD hS => ?_)
    have hP : va_P (dC, dI) vwCl (gW cI h0 qme0 qre1 qco2 z19.2) H := hP
    have hD : va_D (gA h0 qme0 qre1 qco2 s.heap.size) (gW cI h0 qme0 qre1 qco2 z19.2) := hD
    exact gZret (v := z19.1) (u := z19.2) hx hb hr hlocks (jnb (by rw [ez19]; exact hb_goOnWith st p1 x18)) (by subst ez19 ex18; exact (((if_neg c1).trans ((if_neg c3).trans ((if_neg c8).trans ((if_neg c10).trans ((if_neg c13).trans ((if_neg c15).trans ((if_pos c17).trans rfl)))))))).symm) hK hP hD hS dX0_perform_113
  by_cases c20 : (p1 &&& (127 : Int32)) = 99
  · refine lv_lookup (tgt := 178) (off := 174) hx hb dX0_perform_4 (by decide) (by rw [c20]; decide) (by decide) ?_
    refine lv_aload_n hx hb dX0_perform_178 rfl (lv_at hl 0 rfl) ?_
    refine lv_iload_n hx hb dX0_perform_179 rfl (lv_at hl 1 rfl) ?_
    refine gMi (As := [.int p1]) (rest := []) (f := h_branch st p1) ⟨hx, hb, hml, hown, hts⟩ (ch_branch l dC dI cI h0 qme0 qre1 qco2 tN tB H.size st p1) (cwV 1 hts (gV mL_0_143 mI_0_branch mX_0_branch mN_0 mB_0_branch) rfl rfl rfl (by decide +kernel) ⟨Nat.le_of_ble_eq_true rfl, Nat.le_of_ble_eq_true rfl⟩) hK hP hD hS hZ rfl hl.1 rfl (Nat.le_of_ble_eq_true rfl) dX0_perform_180 ⟨Nat.zero_le _, Nat.zero_le _⟩ (fun z21 ez21 H locs hP hD hS => ?_)
    have hP : va_P (dC, dI) vwCl (gW cI h0 qme0 qre1 qco2 z21.2) H := hP
    have hD : va_D (gA h0 qme0 qre1 qco2 s.heap.size) (gW cI h0 qme0 qre1 qco2 z21.2) := hD
    exact gZret (v := z21.1) (u := z21.2) hx hb hr hlocks (jnb (by rw [ez21]; exact hb_branch st p1)) (by subst ez21; exact (((if_neg c1).trans ((if_neg c3).trans ((if_neg c8).trans ((if_neg c10).trans ((if_neg c13).trans ((if_neg c15).trans ((if_neg c17).trans ((if_pos c20).trans rfl))))))))).symm) hK hP hD hS dX0_perform_183
  by_cases c22 : (p1 &&& (127 : Int32)) = 103
  · refine lv_lookup (tgt := 144) (off := 140) hx hb dX0_perform_4 (by decide) (by rw [c22]; decide) (by decide) ?_
    refine lv_iload_n hx hb dX0_perform_144 rfl (lv_at hl 1 rfl) ?_
    refine W.callR (W.runS (As := [.int p1]) (rest := []) ⟨hx, hb, hml, hown, hts⟩ (ch_fOf l p1) (cwS 1 hts (gS mL_0_131 mS_0_fOf mN_0 mB_0_fOf) rfl rfl rfl (by decide +kernel) ⟨Nat.le_of_ble_eq_true rfl, Nat.le_of_ble_eq_true rfl⟩) ⟨jblind, fun _ _ _ => ⟨rfl, trivial⟩⟩ rfl rfl hl.1 rfl (lv_room (Nat.le_of_ble_eq_true rfl)) dX0_perform_145 ⟨Nat.zero_le _, Nat.zero_le _⟩) ?_
    refine W.eq (g2 := F0 m 148 ls (.int (h_fOf p1) :: [])) rfl ?_
    refine lv_topi (fun x23 ex23 => ?_)
    refine lv_if_ne (tgt := 172) hx hb dX0_perform_148 (by decide) (fun c24 => ?_) (fun c24 => ?_)
    · refine lv_aload_n hx hb dX0_perform_172 rfl (lv_at hl 0 rfl) ?_
      refine lv_iload_n hx hb dX0_perform_173 rfl (lv_at hl 1 rfl) ?_
      refine gMi (As := [.int p1]) (rest := []) (f := h_refuse st p1) ⟨hx, hb, hml, hown, hts⟩ (ch_refuse l dC dI cI h0 qme0 qre1 qco2 tN tB H.size st p1) (cwV 1 hts (gV mL_0_140 mI_0_refuse mX_0_refuse mN_0 mB_0_refuse) rfl rfl rfl (by decide +kernel) ⟨Nat.le_of_ble_eq_true rfl, Nat.le_of_ble_eq_true rfl⟩) hK hP hD hS hZ rfl hl.1 rfl (Nat.le_of_ble_eq_true rfl) dX0_perform_174 ⟨Nat.zero_le _, Nat.zero_le _⟩ (fun z25 ez25 H locs hP hD hS => ?_)
      have hP : va_P (dC, dI) vwCl (gW cI h0 qme0 qre1 qco2 z25.2) H := hP
      have hD : va_D (gA h0 qme0 qre1 qco2 s.heap.size) (gW cI h0 qme0 qre1 qco2 z25.2) := hD
      exact gZret (v := z25.1) (u := z25.2) hx hb hr hlocks (jnb (by rw [ez25]; exact hb_refuse st p1)) (by subst ez25 ex23; exact (((if_neg c1).trans ((if_neg c3).trans ((if_neg c8).trans ((if_neg c10).trans ((if_neg c13).trans ((if_neg c15).trans ((if_neg c17).trans ((if_neg c20).trans ((if_pos c22).trans ((if_neg c24).trans rfl))))))))))).symm) hK hP hD hS dX0_perform_177
    · refine lv_aload_n hx hb dX0_perform_151 rfl (lv_at hl 0 rfl) ?_
      refine lv_iload_n hx hb dX0_perform_152 rfl (lv_at hl 1 rfl) ?_
      refine lv_aload_n hx hb dX0_perform_153 rfl (lv_at hl 0 rfl) ?_
      refine lv_iload_n hx hb dX0_perform_154 rfl (lv_at hl 1 rfl) ?_
      refine gR (As := [.int p1]) (rest := [.int p1, .ref h0]) (f := h_aOf st p1) ⟨hx, hb, hml, hown, hts⟩ (ch_aOf l dC dI cI h0 qme0 qre1 qco2 tN tB H.size st p1) (cwV 1 hts (gV mL_0_134 mI_0_aOf mX_0_aOf mN_0 mB_0_aOf) rfl rfl rfl (by decide +kernel) ⟨Nat.le_of_ble_eq_true rfl, Nat.le_of_ble_eq_true rfl⟩) hK hP hD hS hZ rfl hl.1 rfl (Nat.le_of_ble_eq_true rfl) dX0_perform_155 ⟨Nat.zero_le _, Nat.zero_le _⟩ ?_
      refine lv_topi (fun x26 ex26 => ?_)
      refine lv_iload_n hx hb dX0_perform_158 rfl (lv_at hl 1 rfl) ?_
      refine W.callR (W.runS (As := [.int p1]) (rest := [.int x26, .int p1, .ref h0]) ⟨hx, hb, hml, hown, hts⟩ (ch_iOf l p1) (cwS 1 hts (gS mL_0_137 mS_0_iOf mN_0 mB_0_iOf) rfl rfl rfl (by decide +kernel) ⟨Nat.le_of_ble_eq_true rfl, Nat.le_of_ble_eq_true rfl⟩) ⟨jblind, fun _ _ _ => ⟨rfl, trivial⟩⟩ rfl rfl hl.1 rfl (lv_room (Nat.le_of_ble_eq_true rfl)) dX0_perform_159 ⟨Nat.zero_le _, Nat.zero_le _⟩) ?_
      refine W.eq (g2 := F0 m 162 ls (.int (h_iOf p1) :: [.int x26, .int p1, .ref h0])) rfl ?_
      refine lv_topi (fun x27 ex27 => ?_)
      refine lv_iadd hx hb dX0_perform_162 ?_
      refine lv_bipush (v := (-2)) hx hb dX0_perform_163 (by decide) ?_
      refine lv_iand hx hb dX0_perform_165 ?_
      refine gMi (As := [.int p1, .int ((x26 + x27) &&& ((-2) : Int32))]) (rest := []) (f := h_jump st p1 ((x26 + x27) &&& ((-2) : Int32))) ⟨hx, hb, hml, hown, hts⟩ (ch_jump l dC dI cI h0 qme0 qre1 qco2 tN tB H.size st p1 ((x26 + x27) &&& ((-2) : Int32))) (cwV 2 hts (gV mL_0_128 mI_0_jump mX_0_jump mN_0 mB_0_jump) rfl rfl rfl (by decide +kernel) ⟨Nat.le_of_ble_eq_true rfl, Nat.le_of_ble_eq_true rfl⟩) hK hP hD hS hZ rfl hl.1 rfl (Nat.le_of_ble_eq_true rfl) dX0_perform_166 ⟨Nat.zero_le _, Nat.zero_le _⟩ (fun z28 ez28 H locs hP hD hS => ?_)
      have hP : va_P (dC, dI) vwCl (gW cI h0 qme0 qre1 qco2 z28.2) H := hP
      have hD : va_D (gA h0 qme0 qre1 qco2 s.heap.size) (gW cI h0 qme0 qre1 qco2 z28.2) := hD
      refine lv_goto (tgt := 177) hx hb dX0_perform_169 (by decide) ?_
      exact gZret (v := z28.1) (u := z28.2) hx hb hr hlocks (jnb (by rw [ez28]; exact hb_jump st p1 ((x26 + x27) &&& ((-2) : Int32)))) (by subst ez28 ex27 ex26 ex23; exact (((if_neg c1).trans ((if_neg c3).trans ((if_neg c8).trans ((if_neg c10).trans ((if_neg c13).trans ((if_neg c15).trans ((if_neg c17).trans ((if_neg c20).trans ((if_pos c22).trans ((if_pos c24).trans rfl))))))))))).symm) hK hP hD hS dX0_perform_177
  by_cases c29 : (p1 &&& (127 : Int32)) = 111
  · refine lv_lookup (tgt := 129) (off := 125) hx hb dX0_perform_4 (by decide) (by rw [c29]; decide) (by decide) ?_
    refine lv_aload_n hx hb dX0_perform_129 rfl (lv_at hl 0 rfl) ?_
    refine lv_iload_n hx hb dX0_perform_130 rfl (lv_at hl 1 rfl) ?_
    refine lv_aload_n hx hb dX0_perform_131 rfl (lv_at hl 0 rfl) ?_
    refine va_get (D := (dC, dI)) (ci := 0) (v := .int st.2.2.2.1) (C := "PagedHart") (T := TX0) (N := 6) hx hb hts mU0 hown hK hP 0 rfl rfl 3 (by decide) (hts _ mF_0_20) (fun _ h9 => h9) rfl dX0_perform_132 ?_
    refine lv_iload_n hx hb dX0_perform_135 rfl (lv_at hl 1 rfl) ?_
    refine W.callR (W.runS (As := [.int p1]) (rest := [.int st.2.2.2.1, .int p1, .ref h0]) ⟨hx, hb, hml, hown, hts⟩ (ch_jumpDistance l p1) (cwS 1 hts (gS mL_0_125 mS_0_jumpDistance mN_0 mB_0_jumpDistance) rfl rfl rfl (by decide +kernel) ⟨Nat.le_of_ble_eq_true rfl, Nat.le_of_ble_eq_true rfl⟩) ⟨jblind, fun _ _ _ => ⟨rfl, trivial⟩⟩ rfl rfl hl.1 rfl (lv_room (Nat.le_of_ble_eq_true rfl)) dX0_perform_136 ⟨Nat.zero_le _, Nat.zero_le _⟩) ?_
    refine W.eq (g2 := F0 m 139 ls (.int (h_jumpDistance p1) :: [.int st.2.2.2.1, .int p1, .ref h0])) rfl ?_
    refine lv_topi (fun x30 ex30 => ?_)
    refine lv_iadd hx hb dX0_perform_139 ?_
    refine gMi (As := [.int p1, .int (st.2.2.2.1 + x30)]) (rest := []) (f := h_jump st p1 (st.2.2.2.1 + x30)) ⟨hx, hb, hml, hown, hts⟩ (ch_jump l dC dI cI h0 qme0 qre1 qco2 tN tB H.size st p1 (st.2.2.2.1 + x30)) (cwV 2 hts (gV mL_0_128 mI_0_jump mX_0_jump mN_0 mB_0_jump) rfl rfl rfl (by decide +kernel) ⟨Nat.le_of_ble_eq_true rfl, Nat.le_of_ble_eq_true rfl⟩) hK hP hD hS hZ rfl hl.1 rfl (Nat.le_of_ble_eq_true rfl) dX0_perform_140 ⟨Nat.zero_le _, Nat.zero_le _⟩ (fun z31 ez31 H locs hP hD hS => ?_)
    have hP : va_P (dC, dI) vwCl (gW cI h0 qme0 qre1 qco2 z31.2) H := hP
    have hD : va_D (gA h0 qme0 qre1 qco2 s.heap.size) (gW cI h0 qme0 qre1 qco2 z31.2) := hD
    exact gZret (v := z31.1) (u := z31.2) hx hb hr hlocks (jnb (by rw [ez31]; exact hb_jump st p1 (st.2.2.2.1 + x30))) (by subst ez31 ex30; exact (((if_neg c1).trans ((if_neg c3).trans ((if_neg c8).trans ((if_neg c10).trans ((if_neg c13).trans ((if_neg c15).trans ((if_neg c17).trans ((if_neg c20).trans ((if_neg c22).trans ((if_pos c29).trans rfl))))))))))).symm) hK hP hD hS dX0_perform_143
  by_cases c32 : (p1 &&& (127 : Int32)) = 115
  · refine lv_lookup (tgt := 228) (off := 224) hx hb dX0_perform_4 (by decide) (by rw [c32]; decide) (by decide) ?_
    refine lv_aload_n hx hb dX0_perform_228 rfl (lv_at hl 0 rfl) ?_
    refine lv_iload_n hx hb dX0_perform_229 rfl (lv_at hl 1 rfl) ?_
    refine gMi (As := [.int p1]) (rest := []) (f := h_performSystem st p1) ⟨hx, hb, hml, hown, hts⟩ (ch_performSystem l dC dI cI h0 qme0 qre1 qco2 tN tB H.size st p1) (cwV 1 hts (gV mL_0_158 mI_0_performSystem mX_0_performSystem mN_0 mB_0_performSystem) rfl rfl rfl (by decide +kernel) ⟨Nat.le_of_ble_eq_true rfl, Nat.le_of_ble_eq_true rfl⟩) hK hP hD hS hZ rfl hl.1 rfl (Nat.le_of_ble_eq_true rfl) dX0_perform_230 ⟨Nat.zero_le _, Nat.zero_le _⟩ (fun z33 ez33 H locs hP hD hS => ?_)
    have hP : va_P (dC, dI) vwCl (gW cI h0 qme0 qre1 qco2 z33.2) H := hP
    have hD : va_D (gA h0 qme0 qre1 qco2 s.heap.size) (gW cI h0 qme0 qre1 qco2 z33.2) := hD
    exact gZret (v := z33.1) (u := z33.2) hx hb hr hlocks (jnb (by rw [ez33]; exact hb_performSystem st p1)) (by subst ez33; exact (((if_neg c1).trans ((if_neg c3).trans ((if_neg c8).trans ((if_neg c10).trans ((if_neg c13).trans ((if_neg c15).trans ((if_neg c17).trans ((if_neg c20).trans ((if_neg c22).trans ((if_neg c29).trans ((if_pos c32).trans rfl)))))))))))).symm) hK hP hD hS dX0_perform_233
  refine lv_lookup (tgt := 234) (off := 230) hx hb dX0_perform_4 (by decide) ((lv_osw (k := 3) c1 (by decide)).trans ((lv_osw (k := 15) c3 (by decide)).trans ((lv_osw (k := 19) c8 (by decide)).trans ((lv_osw (k := 23) c10 (by decide)).trans ((lv_osw (k := 35) c13 (by decide)).trans ((lv_osw (k := 51) c15 (by decide)).trans ((lv_osw (k := 55) c17 (by decide)).trans ((lv_osw (k := 99) c20 (by decide)).trans ((lv_osw (k := 103) c22 (by decide)).trans ((lv_osw (k := 111) c29 (by decide)).trans ((lv_osw (k := 115) c32 (by decide)).trans rfl))))))))))) (by decide) ?_
  refine lv_aload_n hx hb dX0_perform_234 rfl (lv_at hl 0 rfl) ?_
  refine lv_iload_n hx hb dX0_perform_235 rfl (lv_at hl 1 rfl) ?_
  refine gMi (As := [.int p1]) (rest := []) (f := h_refuse st p1) ⟨hx, hb, hml, hown, hts⟩ (ch_refuse l dC dI cI h0 qme0 qre1 qco2 tN tB H.size st p1) (cwV 1 hts (gV mL_0_140 mI_0_refuse mX_0_refuse mN_0 mB_0_refuse) rfl rfl rfl (by decide +kernel) ⟨Nat.le_of_ble_eq_true rfl, Nat.le_of_ble_eq_true rfl⟩) hK hP hD hS hZ rfl hl.1 rfl (Nat.le_of_ble_eq_true rfl) dX0_perform_236 ⟨Nat.zero_le _, Nat.zero_le _⟩ (fun z34 ez34 H locs hP hD hS => ?_)
  have hP : va_P (dC, dI) vwCl (gW cI h0 qme0 qre1 qco2 z34.2) H := hP
  have hD : va_D (gA h0 qme0 qre1 qco2 s.heap.size) (gW cI h0 qme0 qre1 qco2 z34.2) := hD
  exact gZret (v := z34.1) (u := z34.2) hx hb hr hlocks (jnb (by rw [ez34]; exact hb_refuse st p1)) (by subst ez34; exact (((if_neg c1).trans ((if_neg c3).trans ((if_neg c8).trans ((if_neg c10).trans ((if_neg c13).trans ((if_neg c15).trans ((if_neg c17).trans ((if_neg c20).trans ((if_neg c22).trans ((if_neg c29).trans ((if_neg c32).trans rfl)))))))))))).symm) hK hP hD hS dX0_perform_239
theorem hb_perform (st : HS) (p1 : Int32) : (h_perform st p1).1 = 0 ∨ (h_perform st p1).1 = 1 := by
  unfold h_perform
  try dsimp only
  (repeat' split) <;> first | with_reducible exact hb_trap _ _ _ | with_reducible exact hb_refuse _ _ | with_reducible exact hb_goOn _ | with_reducible exact hb_goOnWith _ _ _ | with_reducible exact hb_jump _ _ _ | with_reducible exact hb_branch _ _ | with_reducible exact hb_load _ _ | with_reducible exact hb_store _ _ | with_reducible exact hb_calculateWithNumber _ _ | with_reducible exact hb_calculateWithRegister _ _ | with_reducible exact hb_call _ | with_reducible exact hb_returnFromTrap _ | with_reducible exact hb_changeControl _ _ | with_reducible exact hb_performSystem _ _ | exact Or.inl rfl | exact Or.inr rfl

def h_step (st : HS)  : HS :=
  if st.2.2.2.2.1 = 0 then
    if (st.2.2.1 (8 : Int32).toNatClampNeg) = 0 then
      let z23 : Int32 × HS := h_trap st (24 : Int32) (0 : Int32)
      z23.2
    else
      if (st.2.2.1 (7 : Int32).toNatClampNeg) = 0 then
        let z22 : Int32 × HS := h_trap st ((-2147483643) : Int32) (0 : Int32)
        z22.2
      else
        let x14 : Int32 := h_locateAligned st st.2.2.2.1 (0 : Int32) (4 : Int32)
        if 0 ≤ x14 then
          let z16 : Int32 × HS := h_perform st (st.1 (jush x14 (2 : Int32)).toNatClampNeg)
          if z16.1 = 0 then
            z16.2
          else
            let z19 : HS := h_countDown z16.2 (8 : Int32)
            let z20 : HS := h_countDown z19 (7 : Int32)
            z20
        else
          let z21 : Int32 × HS := h_trap st (((-1) : Int32) - x14) st.2.2.2.1
          z21.2
  else
    let x4 : Int32 := h_locateAligned st st.2.2.2.1 (0 : Int32) (4 : Int32)
    if 0 ≤ x4 then
      let z6 : Int32 × HS := h_perform st (st.1 (jush x4 (2 : Int32)).toNatClampNeg)
      if z6.1 = 0 then
        z6.2
      else
        z6.2
    else
      let z9 : Int32 × HS := h_trap st (((-1) : Int32) - x4) st.2.2.2.1
      z9.2
set_option maxHeartbeats 4000000 in
set_option maxRecDepth 100000 in
theorem ch_step (l : Launch) (dC : Nat → ClassId) (dI : Nat → Nat → Nat) (cI h0 qme0 qre1 qco2 tN tB : Nat) (sz : Nat) (st : HS)   : Met l yX0_step (.code yX0_step cX0_step 3 none :: gBIG) ({ frames := 5, cells := 0, slots := 0, locals := 122 }) (va_Pc [.ref h0] (gPre dC dI cI h0 qme0 qre1 qco2 tN tB sz st)) (va_Qv (fun v => v = h_step st) (gB dC dI cI h0 qme0 qre1 qco2 (gA h0 qme0 qre1 qco2 sz)) (gA h0 qme0 qre1 qco2 sz)) 0 0 (gA h0 qme0 qre1 qco2 sz) := by
  refine Met.ofW (cc := cX0_step) (maxL := 3) (ret := none) (by decide) rfl ?_
  intro p e s m args below meth c s₁ B hml hv
  obtain ⟨rfl, hsz, hP, hK, hD0, hZ⟩ := hv
  have hx := B.exec
  have hb := B.bytes
  have hr := B.returns
  have hts : ∀ w ∈ gBIG, w.before _ s = true := fun w h => atoms_spec (ws := (.code yX0_step cX0_step 3 none :: gBIG)) B.pre w (List.mem_cons_of_mem _ h)
  have hown : s.vm.findClass "PagedHart" = some m.cls := findClass_of_methodNamed B.named
  have hlocks := B.notSynchronized
  subst hsz
  have hD : va_D (gA h0 qme0 qre1 qco2 s.heap.size) (gW cI h0 qme0 qre1 qco2 st) := gD hD0
  have hS : va_S (gA h0 qme0 qre1 qco2 s.heap.size) s.heap s.heap [] := va_S.rf
  have hP : va_P (dC, dI) vwCl (gW cI h0 qme0 qre1 qco2 st) s.heap := hP
  have hl := lv_entry ([.ref h0]) (n := 3) (Nat.le_of_ble_eq_true rfl)
  rw [lg_entry_eq]
  generalize (lg_sl ([.ref h0]) ++ List.replicate (3 - (lg_sl ([.ref h0])).length) Slot.unset).toArray = ls at hl ⊢
  refine jgo (P := fun H locs => va_P (dC, dI) vwCl (gW cI h0 qme0 qre1 qco2 st) H ∧ va_S (gA h0 qme0 qre1 qco2 s.heap.size) s.heap H locs) ⟨hP, hS⟩ (fun H locs hPS => ?_)
  obtain ⟨hP, hS⟩ := hPS
  have hl : lv_has ls 3 [(0, .ref h0)] := hl
  refine lv_aload_n hx hb dX0_step_0 rfl (lv_at hl 0 rfl) ?_
  refine va_get (D := (dC, dI)) (ci := 0) (v := .int st.2.2.2.2.1) (C := "PagedHart") (T := TX0) (N := 6) hx hb hts mU0 hown hK hP 0 rfl rfl 4 (by decide) (hts _ mF_0_24) (fun _ h9 => h9) rfl dX0_step_1 ?_
  refine lv_if_ne (tgt := 11) hx hb dX0_step_4 (by decide) (fun c1 => ?_) (fun c1 => ?_)
  · refine lv_iconst (v := 0) hx hb dX0_step_11 (by decide) ?_
    refine lv_istore_n (lv' := [(1, .int 0), (0, .ref h0)]) hx hb dX0_step_12 rfl hl (by decide) rfl (fun ls hl => ?_)
    refine lv_iload_n hx hb dX0_step_13 rfl (lv_at hl 0 rfl) ?_
    refine lv_if_eq (tgt := 36) hx hb dX0_step_14 (by decide) (fun c2 => ?_) (fun c2 => ?_)
    · refine lv_iload_n hx hb dX0_step_36 rfl (lv_at hl 0 rfl) ?_
      refine lv_if_eq (tgt := 59) hx hb dX0_step_37 (by decide) (fun c3 => ?_) (fun c3 => ?_)
      · refine lv_aload_n hx hb dX0_step_59 rfl (lv_at hl 1 rfl) ?_
        refine lv_aload_n hx hb dX0_step_60 rfl (lv_at hl 1 rfl) ?_
        refine va_get (D := (dC, dI)) (ci := 0) (v := .int st.2.2.2.1) (C := "PagedHart") (T := TX0) (N := 6) hx hb hts mU0 hown hK hP 0 rfl rfl 3 (by decide) (hts _ mF_0_20) (fun _ h9 => h9) rfl dX0_step_61 ?_
        refine lv_iconst (v := 0) hx hb dX0_step_64 (by decide) ?_
        refine lv_iconst (v := 4) hx hb dX0_step_65 (by decide) ?_
        refine gR (As := [.int st.2.2.2.1, .int 0, .int 4]) (rest := []) (f := h_locateAligned st st.2.2.2.1 (0 : Int32) (4 : Int32)) ⟨hx, hb, hml, hown, hts⟩ (ch_locateAligned l dC dI cI h0 qme0 qre1 qco2 tN tB H.size st st.2.2.2.1 (0 : Int32) (4 : Int32)) (cwV 3 hts (gV mL_0_100 mI_0_locateAligned mX_0_locateAligned mN_0 mB_0_locateAligned) rfl rfl rfl (by decide +kernel) ⟨Nat.le_of_ble_eq_true rfl, Nat.le_of_ble_eq_true rfl⟩) hK hP hD hS hZ rfl hl.1 rfl (Nat.le_of_ble_eq_true rfl) dX0_step_66 ⟨Nat.zero_le _, Nat.zero_le _⟩ ?_
        refine lv_topi (fun x4 ex4 => ?_)
        refine lv_istore_n (lv' := [(2, .int x4), (1, .int 0), (0, .ref h0)]) hx hb dX0_step_69 rfl hl (by decide) rfl (fun ls hl => ?_)
        refine lv_iload_n hx hb dX0_step_70 rfl (lv_at hl 0 rfl) ?_
        refine lv_if_ge (tgt := 87) hx hb dX0_step_71 (by decide) (fun c5 => ?_) (fun c5 => ?_)
        · refine lv_aload_n hx hb dX0_step_87 rfl (lv_at hl 2 rfl) ?_
          refine lv_aload_n hx hb dX0_step_88 rfl (lv_at hl 2 rfl) ?_
          refine va_get (D := (dC, dI)) (ci := 0) (v := .ref qme0) (C := "PagedHart") (T := TX0) (N := 6) hx hb hts mU0 hown hK hP 0 rfl rfl 0 (by decide) (hts _ mF_0_10) (fun _ h9 => h9) rfl dX0_step_89 ?_
          refine lv_iload_n hx hb dX0_step_92 rfl (lv_at hl 0 rfl) ?_
          refine lv_iconst (v := 2) hx hb dX0_step_93 (by decide) ?_
          refine lv_iushr (v := jush x4 (2 : Int32)) hx hb dX0_step_94 rfl ?_
          refine va_iald (D := (dC, dI)) hx hb hK hP 1 0 rfl rfl (by rw [ex4]; exact h_in2 (by rw [← ex4]; exact c5)) dX0_step_95 ?_
          refine gMi (As := [.int (st.1 (jush x4 (2 : Int32)).toNatClampNeg)]) (rest := []) (f := h_perform st (st.1 (jush x4 (2 : Int32)).toNatClampNeg)) ⟨hx, hb, hml, hown, hts⟩ (ch_perform l dC dI cI h0 qme0 qre1 qco2 tN tB H.size st (st.1 (jush x4 (2 : Int32)).toNatClampNeg)) (cwV 1 hts (gV mL_0_104 mI_0_perform mX_0_perform mN_0 mB_0_perform) rfl rfl rfl (by decide +kernel) ⟨Nat.le_of_ble_eq_true rfl, Nat.le_of_ble_eq_true rfl⟩) hK hP hD hS hZ rfl hl.1 rfl (Nat.le_of_ble_eq_true rfl) dX0_step_96 ⟨Nat.zero_le _, Nat.zero_le _⟩ (fun z6 ez6 H locs hP hD hS => ?_)
          have hP : va_P (dC, dI) vwCl (gW cI h0 qme0 qre1 qco2 z6.2) H := hP
          have hD : va_D (gA h0 qme0 qre1 qco2 s.heap.size) (gW cI h0 qme0 qre1 qco2 z6.2) := hD
          refine lv_if_eq (tgt := 118) hx hb dX0_step_99 (by decide) (fun c7 => ?_) (fun c7 => ?_)
          · exact gVret (u := z6.2) hx hb hr hlocks (by subst ez6 ex4; exact (((if_neg c1).trans ((if_pos c5).trans ((if_pos c7).trans rfl)))).symm) hK hP hD hS dX0_step_118
          · refine lv_iload_n hx hb dX0_step_102 rfl (lv_at hl 1 rfl) ?_
            refine lv_if_eq (tgt := 118) hx hb dX0_step_103 (by decide) (fun c8 => ?_) (fun c8 => ?_)
            · exact gVret (u := z6.2) hx hb hr hlocks (by subst ez6 ex4; exact (((if_neg c1).trans ((if_pos c5).trans ((if_neg c7).trans rfl)))).symm) hK hP hD hS dX0_step_118
            · exact (c8 (by decide)).elim
        · refine lv_aload_n hx hb dX0_step_74 rfl (lv_at hl 2 rfl) ?_
          refine lv_iconst (v := (-1)) hx hb dX0_step_75 (by decide) ?_
          refine lv_iload_n hx hb dX0_step_76 rfl (lv_at hl 0 rfl) ?_
          refine lv_isub hx hb dX0_step_77 ?_
          refine lv_aload_n hx hb dX0_step_78 rfl (lv_at hl 2 rfl) ?_
          refine va_get (D := (dC, dI)) (ci := 0) (v := .int st.2.2.2.1) (C := "PagedHart") (T := TX0) (N := 6) hx hb hts mU0 hown hK hP 0 rfl rfl 3 (by decide) (hts _ mF_0_20) (fun _ h9 => h9) rfl dX0_step_79 ?_
          refine gMi (As := [.int (((-1) : Int32) - x4), .int st.2.2.2.1]) (rest := []) (f := h_trap st (((-1) : Int32) - x4) st.2.2.2.1) ⟨hx, hb, hml, hown, hts⟩ (ch_trap l dC dI cI h0 qme0 qre1 qco2 tN tB H.size st (((-1) : Int32) - x4) st.2.2.2.1) (cwV 2 hts (gV mL_0_96 mI_0_trap mX_0_trap mN_0 mB_0_trap) rfl rfl rfl (by decide +kernel) ⟨Nat.le_of_ble_eq_true rfl, Nat.le_of_ble_eq_true rfl⟩) hK hP hD hS hZ rfl hl.1 rfl (Nat.le_of_ble_eq_true rfl) dX0_step_82 ⟨Nat.zero_le _, Nat.zero_le _⟩ (fun z9 ez9 H locs hP hD hS => ?_)
          have hP : va_P (dC, dI) vwCl (gW cI h0 qme0 qre1 qco2 z9.2) H := hP
          have hD : va_D (gA h0 qme0 qre1 qco2 s.heap.size) (gW cI h0 qme0 qre1 qco2 z9.2) := hD
          refine lv_pop hx hb dX0_step_85 rfl ?_
          exact gVret (u := z9.2) hx hb hr hlocks (by subst ez9 ex4; exact (((if_neg c1).trans ((if_neg c5).trans rfl))).symm) hK hP hD hS dX0_step_86
      · exact (c3 (by decide)).elim
    · exact (c2 (by decide)).elim
  · refine lv_iconst (v := 1) hx hb dX0_step_7 (by decide) ?_
    refine lv_goto (tgt := 12) hx hb dX0_step_8 (by decide) ?_
    refine lv_istore_n (lv' := [(1, .int 1), (0, .ref h0)]) hx hb dX0_step_12 rfl hl (by decide) rfl (fun ls hl => ?_)
    refine lv_iload_n hx hb dX0_step_13 rfl (lv_at hl 0 rfl) ?_
    refine lv_if_eq (tgt := 36) hx hb dX0_step_14 (by decide) (fun c10 => ?_) (fun c10 => ?_)
    · exact absurd c10 (by decide)
    · refine lv_aload_n hx hb dX0_step_17 rfl (lv_at hl 1 rfl) ?_
      refine va_get (D := (dC, dI)) (ci := 0) (v := .ref qco2) (C := "PagedHart") (T := TX0) (N := 6) hx hb hts mU0 hown hK hP 0 rfl rfl 2 (by decide) (hts _ mF_0_17) (fun _ h9 => h9) rfl dX0_step_18 ?_
      refine lv_bipush (v := 8) hx hb dX0_step_21 (by decide) ?_
      refine va_iald (D := (dC, dI)) hx hb hK hP 3 0 rfl rfl (jin (by decide)) dX0_step_23 ?_
      refine lv_if_ne (tgt := 36) hx hb dX0_step_24 (by decide) (fun c11 => ?_) (fun c11 => ?_)
      · refine lv_iload_n hx hb dX0_step_36 rfl (lv_at hl 0 rfl) ?_
        refine lv_if_eq (tgt := 59) hx hb dX0_step_37 (by decide) (fun c12 => ?_) (fun c12 => ?_)
        · exact absurd c12 (by decide)
        · refine lv_aload_n hx hb dX0_step_40 rfl (lv_at hl 1 rfl) ?_
          refine va_get (D := (dC, dI)) (ci := 0) (v := .ref qco2) (C := "PagedHart") (T := TX0) (N := 6) hx hb hts mU0 hown hK hP 0 rfl rfl 2 (by decide) (hts _ mF_0_17) (fun _ h9 => h9) rfl dX0_step_41 ?_
          refine lv_bipush (v := 7) hx hb dX0_step_44 (by decide) ?_
          refine va_iald (D := (dC, dI)) hx hb hK hP 3 0 rfl rfl (jin (by decide)) dX0_step_46 ?_
          refine lv_if_ne (tgt := 59) hx hb dX0_step_47 (by decide) (fun c13 => ?_) (fun c13 => ?_)
          · refine lv_aload_n hx hb dX0_step_59 rfl (lv_at hl 1 rfl) ?_
            refine lv_aload_n hx hb dX0_step_60 rfl (lv_at hl 1 rfl) ?_
            refine va_get (D := (dC, dI)) (ci := 0) (v := .int st.2.2.2.1) (C := "PagedHart") (T := TX0) (N := 6) hx hb hts mU0 hown hK hP 0 rfl rfl 3 (by decide) (hts _ mF_0_20) (fun _ h9 => h9) rfl dX0_step_61 ?_
            refine lv_iconst (v := 0) hx hb dX0_step_64 (by decide) ?_
            refine lv_iconst (v := 4) hx hb dX0_step_65 (by decide) ?_
            refine gR (As := [.int st.2.2.2.1, .int 0, .int 4]) (rest := []) (f := h_locateAligned st st.2.2.2.1 (0 : Int32) (4 : Int32)) ⟨hx, hb, hml, hown, hts⟩ (ch_locateAligned l dC dI cI h0 qme0 qre1 qco2 tN tB H.size st st.2.2.2.1 (0 : Int32) (4 : Int32)) (cwV 3 hts (gV mL_0_100 mI_0_locateAligned mX_0_locateAligned mN_0 mB_0_locateAligned) rfl rfl rfl (by decide +kernel) ⟨Nat.le_of_ble_eq_true rfl, Nat.le_of_ble_eq_true rfl⟩) hK hP hD hS hZ rfl hl.1 rfl (Nat.le_of_ble_eq_true rfl) dX0_step_66 ⟨Nat.zero_le _, Nat.zero_le _⟩ ?_
            refine lv_topi (fun x14 ex14 => ?_)
            refine lv_istore_n (lv' := [(2, .int x14), (1, .int 1), (0, .ref h0)]) hx hb dX0_step_69 rfl hl (by decide) rfl (fun ls hl => ?_)
            refine lv_iload_n hx hb dX0_step_70 rfl (lv_at hl 0 rfl) ?_
            refine lv_if_ge (tgt := 87) hx hb dX0_step_71 (by decide) (fun c15 => ?_) (fun c15 => ?_)
            · refine lv_aload_n hx hb dX0_step_87 rfl (lv_at hl 2 rfl) ?_
              refine lv_aload_n hx hb dX0_step_88 rfl (lv_at hl 2 rfl) ?_
              refine va_get (D := (dC, dI)) (ci := 0) (v := .ref qme0) (C := "PagedHart") (T := TX0) (N := 6) hx hb hts mU0 hown hK hP 0 rfl rfl 0 (by decide) (hts _ mF_0_10) (fun _ h9 => h9) rfl dX0_step_89 ?_
              refine lv_iload_n hx hb dX0_step_92 rfl (lv_at hl 0 rfl) ?_
              refine lv_iconst (v := 2) hx hb dX0_step_93 (by decide) ?_
              refine lv_iushr (v := jush x14 (2 : Int32)) hx hb dX0_step_94 rfl ?_
              refine va_iald (D := (dC, dI)) hx hb hK hP 1 0 rfl rfl (by rw [ex14]; exact h_in2 (by rw [← ex14]; exact c15)) dX0_step_95 ?_
              refine gMi (As := [.int (st.1 (jush x14 (2 : Int32)).toNatClampNeg)]) (rest := []) (f := h_perform st (st.1 (jush x14 (2 : Int32)).toNatClampNeg)) ⟨hx, hb, hml, hown, hts⟩ (ch_perform l dC dI cI h0 qme0 qre1 qco2 tN tB H.size st (st.1 (jush x14 (2 : Int32)).toNatClampNeg)) (cwV 1 hts (gV mL_0_104 mI_0_perform mX_0_perform mN_0 mB_0_perform) rfl rfl rfl (by decide +kernel) ⟨Nat.le_of_ble_eq_true rfl, Nat.le_of_ble_eq_true rfl⟩) hK hP hD hS hZ rfl hl.1 rfl (Nat.le_of_ble_eq_true rfl) dX0_step_96 ⟨Nat.zero_le _, Nat.zero_le _⟩ (fun z16 ez16 H locs hP hD hS => ?_)
              have hP : va_P (dC, dI) vwCl (gW cI h0 qme0 qre1 qco2 z16.2) H := hP
              have hD : va_D (gA h0 qme0 qre1 qco2 s.heap.size) (gW cI h0 qme0 qre1 qco2 z16.2) := hD
              refine lv_if_eq (tgt := 118) hx hb dX0_step_99 (by decide) (fun c17 => ?_) (fun c17 => ?_)
              · exact gVret (u := z16.2) hx hb hr hlocks (by subst ez16 ex14; exact (((if_pos c1).trans ((if_neg c11).trans ((if_neg c13).trans ((if_pos c15).trans ((if_pos c17).trans rfl)))))).symm) hK hP hD hS dX0_step_118
              · refine lv_iload_n hx hb dX0_step_102 rfl (lv_at hl 1 rfl) ?_
                refine lv_if_eq (tgt := 118) hx hb dX0_step_103 (by decide) (fun c18 => ?_) (fun c18 => ?_)
                · exact absurd c18 (by decide)
                · refine lv_aload_n hx hb dX0_step_106 rfl (lv_at hl 2 rfl) ?_
                  refine lv_bipush (v := 8) hx hb dX0_step_107 (by decide) ?_
                  refine gMv (As := [.int 8]) (rest := []) (f := h_countDown z16.2 (8 : Int32)) ⟨hx, hb, hml, hown, hts⟩ (ch_countDown l dC dI cI h0 qme0 qre1 qco2 tN tB H.size z16.2 (8 : Int32) (jin (by decide))) (cwV 1 hts (gV mL_0_107 mI_0_countDown mX_0_countDown mN_0 mB_0_countDown) rfl rfl rfl (by decide +kernel) ⟨Nat.le_of_ble_eq_true rfl, Nat.le_of_ble_eq_true rfl⟩) hK hP hD hS hZ rfl hl.1 rfl (Nat.le_of_ble_eq_true rfl) dX0_step_109 ⟨Nat.zero_le _, Nat.zero_le _⟩ (fun z19 ez19 H locs hP hD hS => ?_)
                  have hP : va_P (dC, dI) vwCl (gW cI h0 qme0 qre1 qco2 z19) H := hP
                  have hD : va_D (gA h0 qme0 qre1 qco2 s.heap.size) (gW cI h0 qme0 qre1 qco2 z19) := hD
                  refine lv_aload_n hx hb dX0_step_112 rfl (lv_at hl 2 rfl) ?_
                  refine lv_bipush (v := 7) hx hb dX0_step_113 (by decide) ?_
                  refine gMv (As := [.int 7]) (rest := []) (f := h_countDown z19 (7 : Int32)) ⟨hx, hb, hml, hown, hts⟩ (ch_countDown l dC dI cI h0 qme0 qre1 qco2 tN tB H.size z19 (7 : Int32) (jin (by decide))) (cwV 1 hts (gV mL_0_107 mI_0_countDown mX_0_countDown mN_0 mB_0_countDown) rfl rfl rfl (by decide +kernel) ⟨Nat.le_of_ble_eq_true rfl, Nat.le_of_ble_eq_true rfl⟩) hK hP hD hS hZ rfl hl.1 rfl (Nat.le_of_ble_eq_true rfl) dX0_step_115 ⟨Nat.zero_le _, Nat.zero_le _⟩ (fun z20 ez20 H locs hP hD hS => ?_)
                  have hP : va_P (dC, dI) vwCl (gW cI h0 qme0 qre1 qco2 z20) H := hP
                  have hD : va_D (gA h0 qme0 qre1 qco2 s.heap.size) (gW cI h0 qme0 qre1 qco2 z20) := hD
                  exact gVret (u := z20) hx hb hr hlocks (by subst ez20 ez19 ez16 ex14; exact (((if_pos c1).trans ((if_neg c11).trans ((if_neg c13).trans ((if_pos c15).trans ((if_neg c17).trans rfl)))))).symm) hK hP hD hS dX0_step_118
            · refine lv_aload_n hx hb dX0_step_74 rfl (lv_at hl 2 rfl) ?_
              refine lv_iconst (v := (-1)) hx hb dX0_step_75 (by decide) ?_
              refine lv_iload_n hx hb dX0_step_76 rfl (lv_at hl 0 rfl) ?_
              refine lv_isub hx hb dX0_step_77 ?_
              refine lv_aload_n hx hb dX0_step_78 rfl (lv_at hl 2 rfl) ?_
              refine va_get (D := (dC, dI)) (ci := 0) (v := .int st.2.2.2.1) (C := "PagedHart") (T := TX0) (N := 6) hx hb hts mU0 hown hK hP 0 rfl rfl 3 (by decide) (hts _ mF_0_20) (fun _ h9 => h9) rfl dX0_step_79 ?_
              refine gMi (As := [.int (((-1) : Int32) - x14), .int st.2.2.2.1]) (rest := []) (f := h_trap st (((-1) : Int32) - x14) st.2.2.2.1) ⟨hx, hb, hml, hown, hts⟩ (ch_trap l dC dI cI h0 qme0 qre1 qco2 tN tB H.size st (((-1) : Int32) - x14) st.2.2.2.1) (cwV 2 hts (gV mL_0_96 mI_0_trap mX_0_trap mN_0 mB_0_trap) rfl rfl rfl (by decide +kernel) ⟨Nat.le_of_ble_eq_true rfl, Nat.le_of_ble_eq_true rfl⟩) hK hP hD hS hZ rfl hl.1 rfl (Nat.le_of_ble_eq_true rfl) dX0_step_82 ⟨Nat.zero_le _, Nat.zero_le _⟩ (fun z21 ez21 H locs hP hD hS => ?_)
              have hP : va_P (dC, dI) vwCl (gW cI h0 qme0 qre1 qco2 z21.2) H := hP
              have hD : va_D (gA h0 qme0 qre1 qco2 s.heap.size) (gW cI h0 qme0 qre1 qco2 z21.2) := hD
              refine lv_pop hx hb dX0_step_85 rfl ?_
              exact gVret (u := z21.2) hx hb hr hlocks (by subst ez21 ex14; exact (((if_pos c1).trans ((if_neg c11).trans ((if_neg c13).trans ((if_neg c15).trans rfl))))).symm) hK hP hD hS dX0_step_86
          · refine lv_aload_n hx hb dX0_step_50 rfl (lv_at hl 1 rfl) ?_
            refine lv_ldc (v := (-2147483643)) hx hb hown (hts _ mC_0_99) dX0_step_51 ?_
            refine lv_iconst (v := 0) hx hb dX0_step_53 (by decide) ?_
            refine gMi (As := [.int (-2147483643), .int 0]) (rest := []) (f := h_trap st ((-2147483643) : Int32) (0 : Int32)) ⟨hx, hb, hml, hown, hts⟩ (ch_trap l dC dI cI h0 qme0 qre1 qco2 tN tB H.size st ((-2147483643) : Int32) (0 : Int32)) (cwV 2 hts (gV mL_0_96 mI_0_trap mX_0_trap mN_0 mB_0_trap) rfl rfl rfl (by decide +kernel) ⟨Nat.le_of_ble_eq_true rfl, Nat.le_of_ble_eq_true rfl⟩) hK hP hD hS hZ rfl hl.1 rfl (Nat.le_of_ble_eq_true rfl) dX0_step_54 ⟨Nat.zero_le _, Nat.zero_le _⟩ (fun z22 ez22 H locs hP hD hS => ?_)
            have hP : va_P (dC, dI) vwCl (gW cI h0 qme0 qre1 qco2 z22.2) H := hP
            have hD : va_D (gA h0 qme0 qre1 qco2 s.heap.size) (gW cI h0 qme0 qre1 qco2 z22.2) := hD
            refine lv_pop hx hb dX0_step_57 rfl ?_
            exact gVret (u := z22.2) hx hb hr hlocks (by subst ez22; exact (((if_pos c1).trans ((if_neg c11).trans ((if_pos c13).trans rfl)))).symm) hK hP hD hS dX0_step_58
      · refine lv_aload_n hx hb dX0_step_27 rfl (lv_at hl 1 rfl) ?_
        refine lv_bipush (v := 24) hx hb dX0_step_28 (by decide) ?_
        refine lv_iconst (v := 0) hx hb dX0_step_30 (by decide) ?_
        refine gMi (As := [.int 24, .int 0]) (rest := []) (f := h_trap st (24 : Int32) (0 : Int32)) ⟨hx, hb, hml, hown, hts⟩ (ch_trap l dC dI cI h0 qme0 qre1 qco2 tN tB H.size st (24 : Int32) (0 : Int32)) (cwV 2 hts (gV mL_0_96 mI_0_trap mX_0_trap mN_0 mB_0_trap) rfl rfl rfl (by decide +kernel) ⟨Nat.le_of_ble_eq_true rfl, Nat.le_of_ble_eq_true rfl⟩) hK hP hD hS hZ rfl hl.1 rfl (Nat.le_of_ble_eq_true rfl) dX0_step_31 ⟨Nat.zero_le _, Nat.zero_le _⟩ (fun z23 ez23 H locs hP hD hS => ?_)
        have hP : va_P (dC, dI) vwCl (gW cI h0 qme0 qre1 qco2 z23.2) H := hP
        have hD : va_D (gA h0 qme0 qre1 qco2 s.heap.size) (gW cI h0 qme0 qre1 qco2 z23.2) := hD
        refine lv_pop hx hb dX0_step_34 rfl ?_
        exact gVret (u := z23.2) hx hb hr hlocks (by subst ez23; exact (((if_pos c1).trans ((if_pos c11).trans rfl))).symm) hK hP hD hS dX0_step_35
end
section

abbrev xD1 : Cond := .declares (Bundle.initS "java/lang/RuntimeException")
abbrev xD2 : Cond := .declares (Bundle.initS "java/lang/Exception")
abbrev xD3 : Cond := .declares (Bundle.initS "java/lang/Throwable")
def xB (E : String) (U : State) : Prop := va_Nw (.castable E E) U ∧ va_Nw xD1 U ∧ va_Nw xD2 U ∧ va_Nw xD3 U
/-- what a throw wants beside the tables' good words -/
def gX (E text : String) (is sa : Nat) (A : Nat → Prop) (U : State) (H : Heap) : Prop := vx_Zq Bundle.tN "UNASSIGNED_STACK" Bundle.steD A U H ∧ vx_Zq Bundle.tN "SUPPRESSED_SENTINEL" Bundle.listD A U H ∧ xB E U ∧ vk_R "PagedHart" is text sa U
def gPreX (E text : String) (is sa : Nat) (dC : Nat → ClassId) (dI : Nat → Nat → Nat) (cI h0 qme0 qre1 qco2 tN tB sz : Nat) (u : HS) : State → Prop := fun U => gPre dC dI cI h0 qme0 qre1 qco2 tN tB sz u U ∧ gX E text is sa (gA h0 qme0 qre1 qco2 sz) U U.heap
theorem gX.warm {E text : String} {is sa : Nat} {A : Nat → Prop} {s U : State} {H : Heap} (hW : s.WarmedH U.vm) (h : gX E text is sa A s H) : gX E text is sa A U H := ⟨vx_Zq.moved hW.alike h.1, vx_Zq.moved hW.alike h.2.1, ⟨va_Nw.warmC hW h.2.2.1.1, va_Nw.warmD hW h.2.2.1.2.1, va_Nw.warmD hW h.2.2.1.2.2.1, va_Nw.warmD hW h.2.2.1.2.2.2⟩, vk_R.warm hW h.2.2.2⟩
theorem gX.kept {E text : String} {is sa : Nat} {A : Nat → Prop} {U : State} {H H1 : Heap} (h : gX E text is sa A U H) (hq : ∀ a : Nat, a < H.size → ¬ A a → H1[a]? = H[a]?) : gX E text is sa A U H1 := ⟨h.1.kept hq, h.2.1.kept hq, h.2.2⟩
theorem gX.narrow {E text : String} {is sa : Nat} {A B : Nat → Prop} {U : State} {H : Heap} (h : gX E text is sa A U H) (hAB : ∀ q, B q → A q) : gX E text is sa B U H := ⟨h.1.narrow hAB, h.2.1.narrow hAB, h.2.2⟩
theorem gX.same {E text : String} {is sa : Nat} {A : Nat → Prop} {s U : State} {H : Heap} (hv : U.vm = s.vm) (h : gX E text is sa A s H) : gX E text is sa A U H := ⟨vx_Zq.moved (by rw [hv]; exact Vm.Alike.refl _) h.1, vx_Zq.moved (by rw [hv]; exact Vm.Alike.refl _) h.2.1, ⟨va_Nw.same rfl hv.symm h.2.2.1.1, va_Nw.same rfl hv.symm h.2.2.1.2.1, va_Nw.same rfl hv.symm h.2.2.1.2.2.1, va_Nw.same rfl hv.symm h.2.2.1.2.2.2⟩, vk_R.same hv h.2.2.2⟩
theorem gXblind {av : List Value} {E text : String} {is sa : Nat} {dC : Nat → ClassId} {dI : Nat → Nat → Nat} {cI h0 qme0 qre1 qco2 tN tB sz : Nat} {u : HS} : FrameBlind (va_Pc av (gPreX E text is sa dC dI cI h0 qme0 qre1 qco2 tN tB sz u)) := by
  intro a U g mk q
  obtain ⟨q0, q1, q2⟩ := q
  exact ⟨q0, (gblind (av := av) a U g mk ⟨q0, q1⟩).2, gX.same (s := U) (U := U.calling g mk a) rfl q2⟩
abbrev xNames : List String := ["java/lang/RuntimeException", "java/lang/Exception"]
section gxsec
variable {p : Program} {l : Launch} {e : Env} {R : Room} {s : State} {m : MethodId} {args : Array Value} {below : List Frame} {meth : Method} {c : Code} {H : Heap} {locs : List Loc} {cells slots : Nat} {Q : State → Prop}
variable {dC : Nat → ClassId} {dI : Nat → Nat → Nat} {cI h0 qme0 qre1 qco2 tN tB : Nat} {u : HS}
variable {cc : ByteArray} {maxL nL n index pc : Nat} {rest st0 : List Value} {ls : Array Slot}
theorem gXpreOf {E text : String} {is sa : Nat} (hK : va_K (dC, dI) vwCl [(cI, .int)] s) (hP : va_P (dC, dI) vwCl (gW cI h0 qme0 qre1 qco2 u) H) (hD : va_D (gA h0 qme0 qre1 qco2 s.heap.size) (gW cI h0 qme0 qre1 qco2 u)) (hS : va_S (gA h0 qme0 qre1 qco2 s.heap.size) s.heap H locs) (hZ : gZ tN tB (gA h0 qme0 qre1 qco2 s.heap.size) s s.heap) (hX : gX E text is sa (gA h0 qme0 qre1 qco2 s.heap.size) s s.heap) (U : State) (hU : U.heap = H) (hW : s.WarmedH U.vm) : gPreX E text is sa dC dI cI h0 qme0 qre1 qco2 tN tB H.size u U :=
  ⟨gpreOf hK hP hD hS hZ U hU hW, by rw [hU]; exact ((hX.warm hW).kept hS.2.1).narrow (gAm hS.1)⟩
set_option maxHeartbeats 4000000 in
theorem gThrow {E text : String} {ik is ic sa : Nat} {Qc : Array Value → State → Outcome → State → Prop} {P : Prop} (hnt : l.stackTraces = false) (hfit : Bundle.fit E = true)
    (hts : ∀ w ∈ gBIG, w.before args s = true) (hk : Cond.classLink "PagedHart" ik E ∈ gBIG) (hi : Cond.initialized E ∈ gBIG)
    (hat : ∀ w ∈ vx_atS "PagedHart" ic E xNames, (w ∈ lw_tbl ∧ goodWord w = true) ∨ w = .castable E E ∨ w = xD1 ∨ w = xD2 ∨ w = xD3) (hgood : ∀ w ∈ Cond.classLink "PagedHart" ik E :: Cond.initialized E :: vx_atS "PagedHart" ic E xNames, vx_ot w = true)
    (hx : p.tables.exec = Jvm.exec) (hb : c.code = cc) (hml : c.maxLocals = nL) (hown : s.vm.findClass "PagedHart" = some m.cls) (hlocks : meth.locks = false) (htb : ∀ x ∈ c.exceptionTable.toList, False) (hsize : ls.size = nL)
    (hK : va_K (dC, dI) vwCl [(cI, .int)] s) (hP : va_P (dC, dI) vwCl (gW cI h0 qme0 qre1 qco2 u) H) (hD : va_D (gA h0 qme0 qre1 qco2 s.heap.size) (gW cI h0 qme0 qre1 qco2 u)) (hS : va_S (gA h0 qme0 qre1 qco2 s.heap.size) s.heap H locs) (hX : gX E text is sa (gA h0 qme0 qre1 qco2 s.heap.size) s s.heap)
    (d0 : decode cc pc = .ok (.new ik, 3)) (d3 : decode cc (pc + 3) = .ok (.dup, 1)) (d4 : decode cc (pc + 4) = .ok (.ldc is, 2)) (d6 : decode cc (pc + 6) = .ok (.invokespecial ic, 3)) (d9 : decode cc (pc + 9) = .ok (.athrow, 1))
    (hRf : 6 ≤ R.frames) (hRl : 90 ≤ R.locals) (hRc : 1 ≤ R.cells) (hRs : 6 ≤ R.slots) (hp : P) :
    W p l e R s m args below meth c H locs 0 0 (vx_MQ below Qc (vx_X (fun v : HS => v = u ∧ P) (fun E' v t => E' = E ∧ gB dC dI cI h0 qme0 qre1 qco2 (gA h0 qme0 qre1 qco2 s.heap.size) v t) (gA h0 qme0 qre1 qco2 s.heap.size)) args s 1 6 (gA h0 qme0 qre1 qco2 s.heap.size)) (F0 m pc ls []) := by
  refine vx_throwS (A := gA h0 qme0 qre1 qco2 s.heap.size) (names := xNames) (sa := sa) (text := text) hx hb hnt hown hfit (by decide) (hts _ hk) (hts _ hi) hX.2.2.2 (fun w hw => ?_) hgood hX.1 hX.2.1 hS (hsize.trans hml.symm) d0 d3 d4 d6 d9 (fun x h => (htb x h).elim) (by show 2 + 3 < R.frames; omega) (by show 0 + (13 * (2 + 1) + 43) ≤ R.locals; omega) (by omega) (by omega) hlocks (fun t hvm hz hk => ?_) hS.2.2 (by omega) (by omega)
  · rcases hat w hw with h | h | h | h | h
    · exact hts w (List.mem_filter.mpr h)
    · rw [h]; exact va_Nw.use rfl hX.2.2.1.1
    · rw [h]; exact va_Nw.use rfl hX.2.2.1.2.1
    · rw [h]; exact va_Nw.use rfl hX.2.2.1.2.2.1
    · rw [h]; exact va_Nw.use rfl hX.2.2.1.2.2.2
  · have hP1 : va_P (dC, dI) vwCl (gW cI h0 qme0 qre1 qco2 u) t.heap := hP.kept (fun k q hq => hk q.1 ((hP k q hq).lt))
    exact ⟨u, ⟨rfl, hp⟩, ⟨rfl, hP1, va_K.moved hvm hK, hD⟩, Nat.le_trans hS.1 hz, fun q h1 h2 => by rw [hk q (Nat.lt_of_lt_of_le h1 hS.1)]; exact hS.2.1 q h1 h2⟩
theorem gIretX {v : Int32} {f : Option (Int32 × HS)} {XC : String → State → State → Prop} (hx : p.tables.exec = Jvm.exec) (hb : c.code = cc) (hr : meth.sig.returnType = some .int) (hlocks : meth.locks = false) (hq : some (v, u) = f) (hK : va_K (dC, dI) vwCl [(cI, .int)] s) (hP : va_P (dC, dI) vwCl (gW cI h0 qme0 qre1 qco2 u) H) (hD : va_D (gA h0 qme0 qre1 qco2 s.heap.size) (gW cI h0 qme0 qre1 qco2 u)) (hS : va_S (gA h0 qme0 qre1 qco2 s.heap.size) s.heap H locs) (hdg : decode cc pc = .ok (.ireturn, 1)) :
    W p l e R s m args below meth c H locs 0 0 (vx_MQ below (va_Qi (fun r v => some (r, v) = f) (gB dC dI cI h0 qme0 qre1 qco2 (gA h0 qme0 qre1 qco2 s.heap.size)) (gA h0 qme0 qre1 qco2 s.heap.size)) XC args s 1 6 (gA h0 qme0 qre1 qco2 s.heap.size)) (F0 m pc ls [.int v]) :=
  vx_ret (W.widen (k := 1) (n := 6) (by omega) (by omega) (W.iret (v := v) hx hb hr (fun t ht hW => ⟨⟨v, u, rfl, hq, by rw [ht]; exact hP, va_K.moved hW.alike hK, hD⟩, hS.F ht⟩) hS.2.2 hdg hlocks))
theorem gVretX {f : Option HS} {XC : String → State → State → Prop} (hx : p.tables.exec = Jvm.exec) (hb : c.code = cc) (hr : meth.sig.returnType = none) (hlocks : meth.locks = false) (hq : some u = f) (hK : va_K (dC, dI) vwCl [(cI, .int)] s) (hP : va_P (dC, dI) vwCl (gW cI h0 qme0 qre1 qco2 u) H) (hD : va_D (gA h0 qme0 qre1 qco2 s.heap.size) (gW cI h0 qme0 qre1 qco2 u)) (hS : va_S (gA h0 qme0 qre1 qco2 s.heap.size) s.heap H locs) (hdg : decode cc pc = .ok (.return_, 1)) :
    W p l e R s m args below meth c H locs 0 0 (vx_MQ below (va_Qv (fun v => some v = f) (gB dC dI cI h0 qme0 qre1 qco2 (gA h0 qme0 qre1 qco2 s.heap.size)) (gA h0 qme0 qre1 qco2 s.heap.size)) XC args s 1 6 (gA h0 qme0 qre1 qco2 s.heap.size)) (F0 m pc ls []) :=
  vx_ret (W.widen (k := 1) (n := 6) (by omega) (by omega) (W.vret hx hb hr (fun t ht hW => ⟨⟨u, rfl, hq, by rw [ht]; exact hP, va_K.moved hW.alike hK, hD⟩, hS.F ht⟩) hS.2.2 hdg hlocks))
end gxsec
set_option maxRecDepth 100000 in
theorem xa_35 : ∀ w ∈ vx_atS "PagedHart" 35 "java/lang/IllegalArgumentException" xNames, (w ∈ lw_tbl ∧ goodWord w = true) ∨ w = .castable "java/lang/IllegalArgumentException" "java/lang/IllegalArgumentException" ∨ w = xD1 ∨ w = xD2 ∨ w = xD3 := by decide +kernel
set_option maxRecDepth 100000 in
theorem xg_35 : ∀ w ∈ Cond.classLink "PagedHart" 31 "java/lang/IllegalArgumentException" :: Cond.initialized "java/lang/IllegalArgumentException" :: vx_atS "PagedHart" 35 "java/lang/IllegalArgumentException" xNames, vx_ot w = true := by decide +kernel
set_option maxRecDepth 100000 in
theorem xa_49 : ∀ w ∈ vx_atS "PagedHart" 49 "java/lang/IndexOutOfBoundsException" xNames, (w ∈ lw_tbl ∧ goodWord w = true) ∨ w = .castable "java/lang/IndexOutOfBoundsException" "java/lang/IndexOutOfBoundsException" ∨ w = xD1 ∨ w = xD2 ∨ w = xD3 := by decide +kernel
set_option maxRecDepth 100000 in
theorem xg_49 : ∀ w ∈ Cond.classLink "PagedHart" 45 "java/lang/IndexOutOfBoundsException" :: Cond.initialized "java/lang/IndexOutOfBoundsException" :: vx_atS "PagedHart" 49 "java/lang/IndexOutOfBoundsException" xNames, vx_ot w = true := by decide +kernel
end
section
def h_go : Nat → Int32 → Int32 → HS → Int32 × HS
  | 0, _, k, u => (k, u)
  | n + 1, most, k, u => if most ≤ k then (k, u) else if u.2.2.2.2.2 = 0 then h_go n most (k + 1) (h_step u) else (k, u)
set_option maxHeartbeats 4000000 in
set_option maxRecDepth 100000 in
theorem h_runloop {p : Program} {l : Launch} {e : Env} {R : Room} {s : State} {m : MethodId} {args : Array Value} {below : List Frame} {meth : Method} {c : Code} {dC : Nat → ClassId} {dI : Nat → Nat → Nat} {cI h0 qme0 qre1 qco2 tN tB : Nat} {XC : String → State → State → Prop}
    (hx : p.tables.exec = Jvm.exec) (hb : c.code = cX0_run) (hml : c.maxLocals = 3) (hown : s.vm.findClass "PagedHart" = some m.cls) (hts : ∀ w ∈ gBIG, w.before args s = true) (hr : meth.sig.returnType = some .int) (hlocks : meth.locks = false)
    (hK : va_K (dC, dI) vwCl [(cI, .int)] s) (hZ : gZ tN tB (gA h0 qme0 qre1 qco2 s.heap.size) s s.heap) {f : Option (Int32 × HS)} {most : Int32} (h1 : ¬ most < 0) (h2 : most ≤ (20000 : Int32)) (hRf : 6 ≤ R.frames) (hRl : 144 ≤ R.locals) {u : HS} {H : Heap} {locs : List Loc} {ls : Array Slot} (hf : some (h_go 20001 most (0 : Int32) u) = f)
    (hP : va_P (dC, dI) vwCl (gW cI h0 qme0 qre1 qco2 u) H) (hD : va_D (gA h0 qme0 qre1 qco2 s.heap.size) (gW cI h0 qme0 qre1 qco2 u)) (hS : va_S (gA h0 qme0 qre1 qco2 s.heap.size) s.heap H locs) (hl : lv_has ls 3 [(2, .int 0), (0, .ref h0), (1, .int most)]) :
    W p l e R s m args below meth c H locs 0 0 (vx_MQ below (va_Qi (fun r v => some (r, v) = f) (gB dC dI cI h0 qme0 qre1 qco2 (gA h0 qme0 qre1 qco2 s.heap.size)) (gA h0 qme0 qre1 qco2 s.heap.size)) XC args s 1 6 (gA h0 qme0 qre1 qco2 s.heap.size)) (F0 m 34 ls []) := by
  obtain ⟨j, hj, rfl⟩ := nI_of2 (M := 20000) (n := 20000) rfl h1 h2
  have key : ∀ (n k : Nat) (u : HS) (H : Heap) (locs : List Loc) (ls : Array Slot), k ≤ j → j < k + n → va_P (dC, dI) vwCl (gW cI h0 qme0 qre1 qco2 u) H → va_D (gA h0 qme0 qre1 qco2 s.heap.size) (gW cI h0 qme0 qre1 qco2 u) → va_S (gA h0 qme0 qre1 qco2 s.heap.size) s.heap H locs → lv_has ls 3 [(2, .int (nI k)), (0, .ref h0), (1, .int (nI j))] → some (h_go n (nI j) (nI k) u) = f → W p l e R s m args below meth c H locs 0 0 (vx_MQ below (va_Qi (fun r v => some (r, v) = f) (gB dC dI cI h0 qme0 qre1 qco2 (gA h0 qme0 qre1 qco2 s.heap.size)) (gA h0 qme0 qre1 qco2 s.heap.size)) XC args s 1 6 (gA h0 qme0 qre1 qco2 s.heap.size)) (F0 m 34 ls []) := by
    intro n
    induction n with
    | zero => intro k u H locs ls q1 q2; exact absurd q2 (by omega)
    | succ n ih =>
      intro k u H locs ls q1 q2 hP hD hS hl hf
      refine lv_iload_n hx hb dX0_run_34 rfl (lv_at hl 0 rfl) ?_
      refine lv_iload_n hx hb dX0_run_35 rfl (lv_at hl 2 rfl) ?_
      refine lv_icmp_ge (tgt := 56) hx hb dX0_run_36 (by decide) (fun c1 => ?_) (fun c1 => ?_)
      · refine lv_iload_n hx hb dX0_run_56 rfl (lv_at hl 0 rfl) ?_
        exact gIretX (v := nI k) (u := u) hx hb hr hlocks (by rw [← hf, h_go, if_pos c1]) hK hP hD hS dX0_run_57
      · refine lv_aload_n hx hb dX0_run_39 rfl (lv_at hl 1 rfl) ?_
        refine va_get (D := (dC, dI)) (ci := 0) (v := .int u.2.2.2.2.2) (C := "PagedHart") (T := TX0) (N := 6) hx hb hts mU0 hown hK hP 0 rfl rfl 5 (by decide) (hts _ mF_0_27) (fun _ h9 => h9) rfl dX0_run_40 ?_
        refine lv_if_ne (tgt := 56) hx hb dX0_run_43 (by decide) (fun c2 => ?_) (fun c2 => ?_)
        · refine lv_iload_n hx hb dX0_run_56 rfl (lv_at hl 0 rfl) ?_
          exact gIretX (v := nI k) (u := u) hx hb hr hlocks (by rw [← hf, h_go, if_neg c1, if_neg c2]) hK hP hD hS dX0_run_57
        · have hlt : k < j := Nat.lt_of_not_le (fun q => c1 (nI_le q (by omega)))
          refine lv_aload_n hx hb dX0_run_46 rfl (lv_at hl 1 rfl) ?_
          refine gMv (As := []) (rest := []) (f := h_step u) ⟨hx, hb, hml, hown, hts⟩ (ch_step l dC dI cI h0 qme0 qre1 qco2 tN tB H.size u) (cwV 0 hts (gV mL_0_38 mI_0_step mX_0_step mN_0 mB_0_step) rfl rfl rfl (by decide +kernel) ⟨hRf, hRl⟩) hK hP hD hS hZ rfl hl.1 rfl (Nat.le_of_ble_eq_true rfl) dX0_run_47 ⟨Nat.zero_le _, Nat.zero_le _⟩ (fun z ez H locs hP hD hS => ?_)
          refine lv_iinc (v := nI (k + 1)) (lv' := [(2, .int (nI (k + 1))), (0, .ref h0), (1, .int (nI j))]) hx hb dX0_run_50 hl (k := 0) rfl (by rw [lit1]; exact nI_1 k) (by decide) rfl (fun ls hl => ?_)
          refine lv_goto (tgt := 34) hx hb dX0_run_53 (by decide) ?_
          refine ih (k + 1) z H locs ls hlt (by omega) hP hD hS hl ?_
          rw [← hf, h_go, if_neg c1, if_pos c2, nI_1, ez]
  exact key 20001 0 u H locs ls (Nat.zero_le _) (by omega) hP hD hS hl hf
def h_run (st : HS) (p1 : Int32) : Option (Int32 × HS) :=
  if p1 < 0 then
    none
  else
    if p1 ≤ (20000 : Int32) then
      if p1 = 0 then
        some ((0 : Int32), st)
      else
        some (h_go 20001 p1 (0 : Int32) (st.1, st.2.1, st.2.2.1, st.2.2.2.1, st.2.2.2.2.1, (0 : Int32)))
    else
      none
set_option maxHeartbeats 4000000 in
set_option maxRecDepth 100000 in
theorem ch_run (l : Launch) (dC : Nat → ClassId) (dI : Nat → Nat → Nat) (cI h0 qme0 qre1 qco2 tN tB : Nat) (hnt : l.stackTraces = false) (sa : Nat) (sz : Nat) (st : HS) (p1 : Int32)  : vx_Met l yX0_run (.code yX0_run cX0_run 3 (some .int) :: gBIG) ({ frames := 6, cells := 1, slots := 6, locals := 144 }) (va_Pc [.ref h0, .int p1] (gPreX "java/lang/IllegalArgumentException" "steps are 0 to 20000" 33 sa dC dI cI h0 qme0 qre1 qco2 tN tB sz st)) (va_Qi (fun r v => some (r, v) = h_run st p1) (gB dC dI cI h0 qme0 qre1 qco2 (gA h0 qme0 qre1 qco2 sz)) (gA h0 qme0 qre1 qco2 sz)) (vx_X (fun v : HS => v = st ∧ none = h_run st p1) (fun E v t => E = "java/lang/IllegalArgumentException" ∧ gB dC dI cI h0 qme0 qre1 qco2 (gA h0 qme0 qre1 qco2 sz) v t) (gA h0 qme0 qre1 qco2 sz)) 1 6 (gA h0 qme0 qre1 qco2 sz) := by
  refine vx_ofW (cc := cX0_run) (maxL := 3) (ret := (some .int)) (by decide) rfl ?_
  intro p e s m args below meth c s₁ B hml htb hv
  obtain ⟨rfl, ⟨hsz, hP, hK, hD0, hZ⟩, hX⟩ := hv
  have hx := B.exec
  have hb := B.bytes
  have hr := B.returns
  have hts : ∀ w ∈ gBIG, w.before _ s = true := fun w h => atoms_spec (ws := (.code yX0_run cX0_run 3 (some .int) :: gBIG)) B.pre w (List.mem_cons_of_mem _ h)
  have hown : s.vm.findClass "PagedHart" = some m.cls := findClass_of_methodNamed B.named
  have hlocks := B.notSynchronized
  subst hsz
  have hD : va_D (gA h0 qme0 qre1 qco2 s.heap.size) (gW cI h0 qme0 qre1 qco2 st) := gD hD0
  have hS : va_S (gA h0 qme0 qre1 qco2 s.heap.size) s.heap s.heap [] := va_S.rf
  have hP : va_P (dC, dI) vwCl (gW cI h0 qme0 qre1 qco2 st) s.heap := hP
  have hl := lv_entry ([.ref h0, .int p1]) (n := 3) (Nat.le_of_ble_eq_true rfl)
  rw [lg_entry_eq]
  generalize (lg_sl ([.ref h0, .int p1]) ++ List.replicate (3 - (lg_sl ([.ref h0, .int p1])).length) Slot.unset).toArray = ls at hl ⊢
  refine jgo (P := fun H locs => va_P (dC, dI) vwCl (gW cI h0 qme0 qre1 qco2 st) H ∧ va_S (gA h0 qme0 qre1 qco2 s.heap.size) s.heap H locs) ⟨hP, hS⟩ (fun H locs hPS => ?_)
  obtain ⟨hP, hS⟩ := hPS
  have hl : lv_has ls 3 [(0, .ref h0), (1, .int p1)] := hl
  refine lv_iload_n hx hb dX0_run_0 rfl (lv_at hl 1 rfl) ?_
  refine lv_if_lt (tgt := 11) hx hb dX0_run_1 (by decide) (fun c1 => ?_) (fun c1 => ?_)
  · exact gThrow (u := st) hnt (by decide) hts mK_0_31 mN_IllegalArgumentException xa_35 xg_35 hx hb hml hown hlocks htb hl.1 hK hP hD hS hX dX0_run_11 dX0_run_14 dX0_run_15 dX0_run_17 dX0_run_20 (Nat.le_of_ble_eq_true rfl) (Nat.le_of_ble_eq_true rfl) (Nat.le_of_ble_eq_true rfl) (Nat.le_of_ble_eq_true rfl) (by exact (((if_pos c1).trans rfl)).symm)
  · refine lv_iload_n hx hb dX0_run_4 rfl (lv_at hl 1 rfl) ?_
    refine lv_sipush (v := 20000) hx hb dX0_run_5 (by decide) ?_
    refine lv_icmp_le (tgt := 21) hx hb dX0_run_8 (by decide) (fun c2 => ?_) (fun c2 => ?_)
    · refine lv_iload_n hx hb dX0_run_21 rfl (lv_at hl 1 rfl) ?_
      refine lv_if_ne (tgt := 27) hx hb dX0_run_22 (by decide) (fun c3 => ?_) (fun c3 => ?_)
      · refine lv_aload_n hx hb dX0_run_27 rfl (lv_at hl 0 rfl) ?_
        refine lv_iconst (v := 0) hx hb dX0_run_28 (by decide) ?_
        refine va_put (D := (dC, dI)) (ci := 0) (v := .int 0) (ty := .boolean) (C := "PagedHart") (T := TX0) (N := 6) hx hb hts mU0 tyX0 tyX0_ok nmX0 hown hK hP hD hS 0 rfl rfl 5 (by decide) (hts _ mF_0_27) (fun _ h9 => h9) rfl (by decide +kernel) rfl rfl (Nat.le_of_ble_eq_true rfl) dX0_run_29 (fun H locs hP hD hS => ?_)
        have hP : va_P (dC, dI) vwCl (gW cI h0 qme0 qre1 qco2 (st.1, st.2.1, st.2.2.1, st.2.2.2.1, st.2.2.2.2.1, (0 : Int32))) H := hP
        have hD : va_D (gA h0 qme0 qre1 qco2 s.heap.size) (gW cI h0 qme0 qre1 qco2 (st.1, st.2.1, st.2.2.1, st.2.2.2.1, st.2.2.2.2.1, (0 : Int32))) := hD
        refine lv_iconst (v := 0) hx hb dX0_run_32 (by decide) ?_
        refine lv_istore_n (lv' := [(2, .int 0), (0, .ref h0), (1, .int p1)]) hx hb dX0_run_33 rfl hl (by decide) rfl (fun ls hl => ?_)
        exact h_runloop hx hb hml hown hts hr hlocks hK hZ (f := h_run st p1) (most := p1) c1 c2 (Nat.le_of_ble_eq_true rfl) (Nat.le_of_ble_eq_true rfl) (((if_neg c1).trans ((if_pos c2).trans ((if_neg c3).trans rfl)))).symm hP hD hS hl
      · refine lv_iconst (v := 0) hx hb dX0_run_25 (by decide) ?_
        exact gIretX (v := 0) (u := st) hx hb hr hlocks (by exact (((if_neg c1).trans ((if_pos c2).trans ((if_pos c3).trans rfl)))).symm) hK hP hD hS dX0_run_26
    · exact gThrow (u := st) hnt (by decide) hts mK_0_31 mN_IllegalArgumentException xa_35 xg_35 hx hb hml hown hlocks htb hl.1 hK hP hD hS hX dX0_run_11 dX0_run_14 dX0_run_15 dX0_run_17 dX0_run_20 (Nat.le_of_ble_eq_true rfl) (Nat.le_of_ble_eq_true rfl) (Nat.le_of_ble_eq_true rfl) (Nat.le_of_ble_eq_true rfl) (by exact (((if_neg c1).trans ((if_neg c2).trans rfl))).symm)

def h_peek (st : HS) (p1 : Int32) : Option (Int32 × HS) :=
  let x1 : Int32 := h_isWord p1
  if x1 = 0 then
    none
  else
    some ((st.1 (jush p1 (2 : Int32)).toNatClampNeg), st)
set_option maxHeartbeats 4000000 in
set_option maxRecDepth 100000 in
theorem ch_peek (l : Launch) (dC : Nat → ClassId) (dI : Nat → Nat → Nat) (cI h0 qme0 qre1 qco2 tN tB : Nat) (hnt : l.stackTraces = false) (sa : Nat) (sz : Nat) (st : HS) (p1 : Int32)  : vx_Met l yX0_peek (.code yX0_peek cX0_peek 2 (some .int) :: gBIG) ({ frames := 6, cells := 1, slots := 6, locals := 90 }) (va_Pc [.ref h0, .int p1] (gPreX "java/lang/IndexOutOfBoundsException" "no word of the memory" 47 sa dC dI cI h0 qme0 qre1 qco2 tN tB sz st)) (va_Qi (fun r v => some (r, v) = h_peek st p1) (gB dC dI cI h0 qme0 qre1 qco2 (gA h0 qme0 qre1 qco2 sz)) (gA h0 qme0 qre1 qco2 sz)) (vx_X (fun v : HS => v = st ∧ none = h_peek st p1) (fun E v t => E = "java/lang/IndexOutOfBoundsException" ∧ gB dC dI cI h0 qme0 qre1 qco2 (gA h0 qme0 qre1 qco2 sz) v t) (gA h0 qme0 qre1 qco2 sz)) 1 6 (gA h0 qme0 qre1 qco2 sz) := by
  refine vx_ofW (cc := cX0_peek) (maxL := 2) (ret := (some .int)) (by decide) rfl ?_
  intro p e s m args below meth c s₁ B hml htb hv
  obtain ⟨rfl, ⟨hsz, hP, hK, hD0, hZ⟩, hX⟩ := hv
  have hx := B.exec
  have hb := B.bytes
  have hr := B.returns
  have hts : ∀ w ∈ gBIG, w.before _ s = true := fun w h => atoms_spec (ws := (.code yX0_peek cX0_peek 2 (some .int) :: gBIG)) B.pre w (List.mem_cons_of_mem _ h)
  have hown : s.vm.findClass "PagedHart" = some m.cls := findClass_of_methodNamed B.named
  have hlocks := B.notSynchronized
  subst hsz
  have hD : va_D (gA h0 qme0 qre1 qco2 s.heap.size) (gW cI h0 qme0 qre1 qco2 st) := gD hD0
  have hS : va_S (gA h0 qme0 qre1 qco2 s.heap.size) s.heap s.heap [] := va_S.rf
  have hP : va_P (dC, dI) vwCl (gW cI h0 qme0 qre1 qco2 st) s.heap := hP
  have hl := lv_entry ([.ref h0, .int p1]) (n := 2) (Nat.le_of_ble_eq_true rfl)
  rw [lg_entry_eq]
  generalize (lg_sl ([.ref h0, .int p1]) ++ List.replicate (2 - (lg_sl ([.ref h0, .int p1])).length) Slot.unset).toArray = ls at hl ⊢
  refine jgo (P := fun H locs => va_P (dC, dI) vwCl (gW cI h0 qme0 qre1 qco2 st) H ∧ va_S (gA h0 qme0 qre1 qco2 s.heap.size) s.heap H locs) ⟨hP, hS⟩ (fun H locs hPS => ?_)
  obtain ⟨hP, hS⟩ := hPS
  have hl : lv_has ls 2 [(0, .ref h0), (1, .int p1)] := hl
  refine lv_iload_n hx hb dX0_peek_0 rfl (lv_at hl 1 rfl) ?_
  refine W.callR (W.runS (As := [.int p1]) (rest := []) ⟨hx, hb, hml, hown, hts⟩ (ch_isWord l p1) (cwS 1 hts (gS mL_0_41 mS_0_isWord mN_0 mB_0_isWord) rfl rfl rfl (by decide +kernel) ⟨Nat.le_of_ble_eq_true rfl, Nat.le_of_ble_eq_true rfl⟩) ⟨jblind, fun _ _ _ => ⟨rfl, trivial⟩⟩ rfl rfl hl.1 rfl (lv_room (Nat.le_of_ble_eq_true rfl)) dX0_peek_1 ⟨Nat.zero_le _, Nat.zero_le _⟩) ?_
  refine W.eq (g2 := F0 m 4 ls (.int (h_isWord p1) :: [])) rfl ?_
  refine lv_topi (fun x1 ex1 => ?_)
  refine lv_if_ne (tgt := 17) hx hb dX0_peek_4 (by decide) (fun c2 => ?_) (fun c2 => ?_)
  · refine lv_aload_n hx hb dX0_peek_17 rfl (lv_at hl 0 rfl) ?_
    refine va_get (D := (dC, dI)) (ci := 0) (v := .ref qme0) (C := "PagedHart") (T := TX0) (N := 6) hx hb hts mU0 hown hK hP 0 rfl rfl 0 (by decide) (hts _ mF_0_10) (fun _ h9 => h9) rfl dX0_peek_18 ?_
    refine lv_iload_n hx hb dX0_peek_21 rfl (lv_at hl 1 rfl) ?_
    refine lv_iconst (v := 2) hx hb dX0_peek_22 (by decide) ?_
    refine lv_iushr (v := jush p1 (2 : Int32)) hx hb dX0_peek_23 rfl ?_
    refine va_iald (D := (dC, dI)) hx hb hK hP 1 0 rfl rfl (h_inW (by rw [← ex1]; exact c2)) dX0_peek_24 ?_
    exact gIretX (v := st.1 (jush p1 (2 : Int32)).toNatClampNeg) (u := st) hx hb hr hlocks (by subst ex1; exact (((if_neg c2).trans rfl)).symm) hK hP hD hS dX0_peek_25
  · exact gThrow (u := st) hnt (by decide) hts mK_0_45 mN_IndexOutOfBoundsException xa_49 xg_49 hx hb hml hown hlocks htb hl.1 hK hP hD hS hX dX0_peek_7 dX0_peek_10 dX0_peek_11 dX0_peek_13 dX0_peek_16 (Nat.le_of_ble_eq_true rfl) (Nat.le_of_ble_eq_true rfl) (Nat.le_of_ble_eq_true rfl) (Nat.le_of_ble_eq_true rfl) (by subst ex1; exact (((if_pos c2).trans rfl)).symm)

def h_poke (st : HS) (p1 : Int32) (p2 : Int32) : Option HS :=
  let x1 : Int32 := h_isWord p1
  if x1 = 0 then
    none
  else
    some (upd st.1 (jush p1 (2 : Int32)).toNatClampNeg p2, st.2.1, st.2.2.1, st.2.2.2.1, st.2.2.2.2.1, st.2.2.2.2.2)
set_option maxHeartbeats 4000000 in
set_option maxRecDepth 100000 in
theorem ch_poke (l : Launch) (dC : Nat → ClassId) (dI : Nat → Nat → Nat) (cI h0 qme0 qre1 qco2 tN tB : Nat) (hnt : l.stackTraces = false) (sa : Nat) (sz : Nat) (st : HS) (p1 : Int32) (p2 : Int32)  : vx_Met l yX0_poke (.code yX0_poke cX0_poke 3 none :: gBIG) ({ frames := 6, cells := 1, slots := 6, locals := 90 }) (va_Pc [.ref h0, .int p1, .int p2] (gPreX "java/lang/IndexOutOfBoundsException" "no word of the memory" 47 sa dC dI cI h0 qme0 qre1 qco2 tN tB sz st)) (va_Qv (fun v => some v = h_poke st p1 p2) (gB dC dI cI h0 qme0 qre1 qco2 (gA h0 qme0 qre1 qco2 sz)) (gA h0 qme0 qre1 qco2 sz)) (vx_X (fun v : HS => v = st ∧ none = h_poke st p1 p2) (fun E v t => E = "java/lang/IndexOutOfBoundsException" ∧ gB dC dI cI h0 qme0 qre1 qco2 (gA h0 qme0 qre1 qco2 sz) v t) (gA h0 qme0 qre1 qco2 sz)) 1 6 (gA h0 qme0 qre1 qco2 sz) := by
  refine vx_ofW (cc := cX0_poke) (maxL := 3) (ret := none) (by decide) rfl ?_
  intro p e s m args below meth c s₁ B hml htb hv
  obtain ⟨rfl, ⟨hsz, hP, hK, hD0, hZ⟩, hX⟩ := hv
  have hx := B.exec
  have hb := B.bytes
  have hr := B.returns
  have hts : ∀ w ∈ gBIG, w.before _ s = true := fun w h => atoms_spec (ws := (.code yX0_poke cX0_poke 3 none :: gBIG)) B.pre w (List.mem_cons_of_mem _ h)
  have hown : s.vm.findClass "PagedHart" = some m.cls := findClass_of_methodNamed B.named
  have hlocks := B.notSynchronized
  subst hsz
  have hD : va_D (gA h0 qme0 qre1 qco2 s.heap.size) (gW cI h0 qme0 qre1 qco2 st) := gD hD0
  have hS : va_S (gA h0 qme0 qre1 qco2 s.heap.size) s.heap s.heap [] := va_S.rf
  have hP : va_P (dC, dI) vwCl (gW cI h0 qme0 qre1 qco2 st) s.heap := hP
  have hl := lv_entry ([.ref h0, .int p1, .int p2]) (n := 3) (Nat.le_of_ble_eq_true rfl)
  rw [lg_entry_eq]
  generalize (lg_sl ([.ref h0, .int p1, .int p2]) ++ List.replicate (3 - (lg_sl ([.ref h0, .int p1, .int p2])).length) Slot.unset).toArray = ls at hl ⊢
  refine jgo (P := fun H locs => va_P (dC, dI) vwCl (gW cI h0 qme0 qre1 qco2 st) H ∧ va_S (gA h0 qme0 qre1 qco2 s.heap.size) s.heap H locs) ⟨hP, hS⟩ (fun H locs hPS => ?_)
  obtain ⟨hP, hS⟩ := hPS
  have hl : lv_has ls 3 [(0, .ref h0), (1, .int p1), (2, .int p2)] := hl
  refine lv_iload_n hx hb dX0_poke_0 rfl (lv_at hl 1 rfl) ?_
  refine W.callR (W.runS (As := [.int p1]) (rest := []) ⟨hx, hb, hml, hown, hts⟩ (ch_isWord l p1) (cwS 1 hts (gS mL_0_41 mS_0_isWord mN_0 mB_0_isWord) rfl rfl rfl (by decide +kernel) ⟨Nat.le_of_ble_eq_true rfl, Nat.le_of_ble_eq_true rfl⟩) ⟨jblind, fun _ _ _ => ⟨rfl, trivial⟩⟩ rfl rfl hl.1 rfl (lv_room (Nat.le_of_ble_eq_true rfl)) dX0_poke_1 ⟨Nat.zero_le _, Nat.zero_le _⟩) ?_
  refine W.eq (g2 := F0 m 4 ls (.int (h_isWord p1) :: [])) rfl ?_
  refine lv_topi (fun x1 ex1 => ?_)
  refine lv_if_ne (tgt := 17) hx hb dX0_poke_4 (by decide) (fun c2 => ?_) (fun c2 => ?_)
  · refine lv_aload_n hx hb dX0_poke_17 rfl (lv_at hl 0 rfl) ?_
    refine va_get (D := (dC, dI)) (ci := 0) (v := .ref qme0) (C := "PagedHart") (T := TX0) (N := 6) hx hb hts mU0 hown hK hP 0 rfl rfl 0 (by decide) (hts _ mF_0_10) (fun _ h9 => h9) rfl dX0_poke_18 ?_
    refine lv_iload_n hx hb dX0_poke_21 rfl (lv_at hl 1 rfl) ?_
    refine lv_iconst (v := 2) hx hb dX0_poke_22 (by decide) ?_
    refine lv_iushr (v := jush p1 (2 : Int32)) hx hb dX0_poke_23 rfl ?_
    refine lv_iload_n hx hb dX0_poke_24 rfl (lv_at hl 2 rfl) ?_
    refine va_iast (D := (dC, dI)) hx hb hK hP hD hS 1 0 rfl rfl (h_inW (by rw [← ex1]; exact c2)) dX0_poke_25 (fun H locs hP hD hS => ?_)
    have hP : va_P (dC, dI) vwCl (gW cI h0 qme0 qre1 qco2 (upd st.1 (jush p1 (2 : Int32)).toNatClampNeg p2, st.2.1, st.2.2.1, st.2.2.2.1, st.2.2.2.2.1, st.2.2.2.2.2)) H := hP
    have hD : va_D (gA h0 qme0 qre1 qco2 s.heap.size) (gW cI h0 qme0 qre1 qco2 (upd st.1 (jush p1 (2 : Int32)).toNatClampNeg p2, st.2.1, st.2.2.1, st.2.2.2.1, st.2.2.2.2.1, st.2.2.2.2.2)) := hD
    exact gVretX (u := (upd st.1 (jush p1 (2 : Int32)).toNatClampNeg p2, st.2.1, st.2.2.1, st.2.2.2.1, st.2.2.2.2.1, st.2.2.2.2.2)) hx hb hr hlocks (by subst ex1; exact (((if_neg c2).trans rfl)).symm) hK hP hD hS dX0_poke_26
  · exact gThrow (u := st) hnt (by decide) hts mK_0_45 mN_IndexOutOfBoundsException xa_49 xg_49 hx hb hml hown hlocks htb hl.1 hK hP hD hS hX dX0_poke_7 dX0_poke_10 dX0_poke_11 dX0_poke_13 dX0_poke_16 (Nat.le_of_ble_eq_true rfl) (Nat.le_of_ble_eq_true rfl) (Nat.le_of_ble_eq_true rfl) (Nat.le_of_ble_eq_true rfl) (by subst ex1; exact (((if_pos c2).trans rfl)).symm)

def h_pokeFour (st : HS) (p1 : Int32) (p2 : Int32) (p3 : Int32) (p4 : Int32) (p5 : Int32) : Option HS :=
  let x1 : Int32 := h_isWord p1
  if x1 = 0 then
    none
  else
    let x3 : Int32 := h_isWord (p1 + (12 : Int32))
    if x3 = 0 then
      none
    else
      let x5 : Int32 := jush p1 (2 : Int32)
      some (upd (upd (upd (upd st.1 x5.toNatClampNeg p2) (x5 + (1 : Int32)).toNatClampNeg p3) (x5 + (2 : Int32)).toNatClampNeg p4) (x5 + (3 : Int32)).toNatClampNeg p5, st.2.1, st.2.2.1, st.2.2.2.1, st.2.2.2.2.1, st.2.2.2.2.2)
set_option maxHeartbeats 4000000 in
set_option maxRecDepth 100000 in
theorem ch_pokeFour (l : Launch) (dC : Nat → ClassId) (dI : Nat → Nat → Nat) (cI h0 qme0 qre1 qco2 tN tB : Nat) (hnt : l.stackTraces = false) (sa : Nat) (sz : Nat) (st : HS) (p1 : Int32) (p2 : Int32) (p3 : Int32) (p4 : Int32) (p5 : Int32)  : vx_Met l yX0_pokeFour (.code yX0_pokeFour cX0_pokeFour 7 none :: gBIG) ({ frames := 6, cells := 1, slots := 6, locals := 90 }) (va_Pc [.ref h0, .int p1, .int p2, .int p3, .int p4, .int p5] (gPreX "java/lang/IndexOutOfBoundsException" "not four words of the memory" 50 sa dC dI cI h0 qme0 qre1 qco2 tN tB sz st)) (va_Qv (fun v => some v = h_pokeFour st p1 p2 p3 p4 p5) (gB dC dI cI h0 qme0 qre1 qco2 (gA h0 qme0 qre1 qco2 sz)) (gA h0 qme0 qre1 qco2 sz)) (vx_X (fun v : HS => v = st ∧ none = h_pokeFour st p1 p2 p3 p4 p5) (fun E v t => E = "java/lang/IndexOutOfBoundsException" ∧ gB dC dI cI h0 qme0 qre1 qco2 (gA h0 qme0 qre1 qco2 sz) v t) (gA h0 qme0 qre1 qco2 sz)) 1 6 (gA h0 qme0 qre1 qco2 sz) := by
  refine vx_ofW (cc := cX0_pokeFour) (maxL := 7) (ret := none) (by decide) rfl ?_
  intro p e s m args below meth c s₁ B hml htb hv
  obtain ⟨rfl, ⟨hsz, hP, hK, hD0, hZ⟩, hX⟩ := hv
  have hx := B.exec
  have hb := B.bytes
  have hr := B.returns
  have hts : ∀ w ∈ gBIG, w.before _ s = true := fun w h => atoms_spec (ws := (.code yX0_pokeFour cX0_pokeFour 7 none :: gBIG)) B.pre w (List.mem_cons_of_mem _ h)
  have hown : s.vm.findClass "PagedHart" = some m.cls := findClass_of_methodNamed B.named
  have hlocks := B.notSynchronized
  subst hsz
  have hD : va_D (gA h0 qme0 qre1 qco2 s.heap.size) (gW cI h0 qme0 qre1 qco2 st) := gD hD0
  have hS : va_S (gA h0 qme0 qre1 qco2 s.heap.size) s.heap s.heap [] := va_S.rf
  have hP : va_P (dC, dI) vwCl (gW cI h0 qme0 qre1 qco2 st) s.heap := hP
  have hl := lv_entry ([.ref h0, .int p1, .int p2, .int p3, .int p4, .int p5]) (n := 7) (Nat.le_of_ble_eq_true rfl)
  rw [lg_entry_eq]
  generalize (lg_sl ([.ref h0, .int p1, .int p2, .int p3, .int p4, .int p5]) ++ List.replicate (7 - (lg_sl ([.ref h0, .int p1, .int p2, .int p3, .int p4, .int p5])).length) Slot.unset).toArray = ls at hl ⊢
  refine jgo (P := fun H locs => va_P (dC, dI) vwCl (gW cI h0 qme0 qre1 qco2 st) H ∧ va_S (gA h0 qme0 qre1 qco2 s.heap.size) s.heap H locs) ⟨hP, hS⟩ (fun H locs hPS => ?_)
  obtain ⟨hP, hS⟩ := hPS
  have hl : lv_has ls 7 [(0, .ref h0), (1, .int p1), (2, .int p2), (3, .int p3), (4, .int p4), (5, .int p5)] := hl
  refine lv_iload_n hx hb dX0_pokeFour_0 rfl (lv_at hl 1 rfl) ?_
  refine W.callR (W.runS (As := [.int p1]) (rest := []) ⟨hx, hb, hml, hown, hts⟩ (ch_isWord l p1) (cwS 1 hts (gS mL_0_41 mS_0_isWord mN_0 mB_0_isWord) rfl rfl rfl (by decide +kernel) ⟨Nat.le_of_ble_eq_true rfl, Nat.le_of_ble_eq_true rfl⟩) ⟨jblind, fun _ _ _ => ⟨rfl, trivial⟩⟩ rfl rfl hl.1 rfl (lv_room (Nat.le_of_ble_eq_true rfl)) dX0_pokeFour_1 ⟨Nat.zero_le _, Nat.zero_le _⟩) ?_
  refine W.eq (g2 := F0 m 4 ls (.int (h_isWord p1) :: [])) rfl ?_
  refine lv_topi (fun x1 ex1 => ?_)
  refine lv_if_eq (tgt := 17) hx hb dX0_pokeFour_4 (by decide) (fun c2 => ?_) (fun c2 => ?_)
  · exact gThrow (u := st) hnt (by decide) hts mK_0_45 mN_IndexOutOfBoundsException xa_49 xg_49 hx hb hml hown hlocks htb hl.1 hK hP hD hS hX dX0_pokeFour_17 dX0_pokeFour_20 dX0_pokeFour_21 dX0_pokeFour_23 dX0_pokeFour_26 (Nat.le_of_ble_eq_true rfl) (Nat.le_of_ble_eq_true rfl) (Nat.le_of_ble_eq_true rfl) (Nat.le_of_ble_eq_true rfl) (by subst ex1; exact (((if_pos c2).trans rfl)).symm)
  · refine lv_iload_n hx hb dX0_pokeFour_7 rfl (lv_at hl 1 rfl) ?_
    refine lv_bipush (v := 12) hx hb dX0_pokeFour_8 (by decide) ?_
    refine lv_iadd hx hb dX0_pokeFour_10 ?_
    refine W.callR (W.runS (As := [.int (p1 + (12 : Int32))]) (rest := []) ⟨hx, hb, hml, hown, hts⟩ (ch_isWord l (p1 + (12 : Int32))) (cwS 1 hts (gS mL_0_41 mS_0_isWord mN_0 mB_0_isWord) rfl rfl rfl (by decide +kernel) ⟨Nat.le_of_ble_eq_true rfl, Nat.le_of_ble_eq_true rfl⟩) ⟨jblind, fun _ _ _ => ⟨rfl, trivial⟩⟩ rfl rfl hl.1 rfl (lv_room (Nat.le_of_ble_eq_true rfl)) dX0_pokeFour_11 ⟨Nat.zero_le _, Nat.zero_le _⟩) ?_
    refine W.eq (g2 := F0 m 14 ls (.int (h_isWord (p1 + (12 : Int32))) :: [])) rfl ?_
    refine lv_topi (fun x3 ex3 => ?_)
    refine lv_if_ne (tgt := 27) hx hb dX0_pokeFour_14 (by decide) (fun c4 => ?_) (fun c4 => ?_)
    · refine lv_iload_n hx hb dX0_pokeFour_27 rfl (lv_at hl 1 rfl) ?_
      refine lv_iconst (v := 2) hx hb dX0_pokeFour_28 (by decide) ?_
      refine lv_iushr (v := jush p1 (2 : Int32)) hx hb dX0_pokeFour_29 rfl ?_
      refine lv_topi (fun x5 ex5 => ?_)
      refine lv_istore (lv' := [(6, .int x5), (0, .ref h0), (1, .int p1), (2, .int p2), (3, .int p3), (4, .int p4), (5, .int p5)]) hx hb dX0_pokeFour_30 hl (by decide) rfl (fun ls hl => ?_)
      refine lv_aload_n hx hb dX0_pokeFour_32 rfl (lv_at hl 1 rfl) ?_
      refine va_get (D := (dC, dI)) (ci := 0) (v := .ref qme0) (C := "PagedHart") (T := TX0) (N := 6) hx hb hts mU0 hown hK hP 0 rfl rfl 0 (by decide) (hts _ mF_0_10) (fun _ h9 => h9) rfl dX0_pokeFour_33 ?_
      refine lv_iload hx hb dX0_pokeFour_36 (lv_at hl 0 rfl) ?_
      refine lv_iload_n hx hb dX0_pokeFour_38 rfl (lv_at hl 3 rfl) ?_
      refine va_iast (D := (dC, dI)) hx hb hK hP hD hS 1 0 rfl rfl (by rw [ex5]; exact h_inW (by rw [← ex1]; exact c2)) dX0_pokeFour_39 (fun H locs hP hD hS => ?_)
      have hP : va_P (dC, dI) vwCl (gW cI h0 qme0 qre1 qco2 (upd st.1 x5.toNatClampNeg p2, st.2.1, st.2.2.1, st.2.2.2.1, st.2.2.2.2.1, st.2.2.2.2.2)) H := hP
      have hD : va_D (gA h0 qme0 qre1 qco2 s.heap.size) (gW cI h0 qme0 qre1 qco2 (upd st.1 x5.toNatClampNeg p2, st.2.1, st.2.2.1, st.2.2.2.1, st.2.2.2.2.1, st.2.2.2.2.2)) := hD
      refine lv_aload_n hx hb dX0_pokeFour_40 rfl (lv_at hl 1 rfl) ?_
      refine va_get (D := (dC, dI)) (ci := 0) (v := .ref qme0) (C := "PagedHart") (T := TX0) (N := 6) hx hb hts mU0 hown hK hP 0 rfl rfl 0 (by decide) (hts _ mF_0_10) (fun _ h9 => h9) rfl dX0_pokeFour_41 ?_
      refine lv_iload hx hb dX0_pokeFour_44 (lv_at hl 0 rfl) ?_
      refine lv_iconst (v := 1) hx hb dX0_pokeFour_46 (by decide) ?_
      refine lv_iadd hx hb dX0_pokeFour_47 ?_
      refine lv_iload_n hx hb dX0_pokeFour_48 rfl (lv_at hl 4 rfl) ?_
      refine va_iast (D := (dC, dI)) hx hb hK hP hD hS 1 0 rfl rfl (by rw [ex5]; exact h_in4 1 (by rw [← ex1]; exact c2) (by rw [← ex3]; exact c4) (by decide)) dX0_pokeFour_49 (fun H locs hP hD hS => ?_)
      have hP : va_P (dC, dI) vwCl (gW cI h0 qme0 qre1 qco2 (upd (upd st.1 x5.toNatClampNeg p2) (x5 + (1 : Int32)).toNatClampNeg p3, st.2.1, st.2.2.1, st.2.2.2.1, st.2.2.2.2.1, st.2.2.2.2.2)) H := hP
      have hD : va_D (gA h0 qme0 qre1 qco2 s.heap.size) (gW cI h0 qme0 qre1 qco2 (upd (upd st.1 x5.toNatClampNeg p2) (x5 + (1 : Int32)).toNatClampNeg p3, st.2.1, st.2.2.1, st.2.2.2.1, st.2.2.2.2.1, st.2.2.2.2.2)) := hD
      refine lv_aload_n hx hb dX0_pokeFour_50 rfl (lv_at hl 1 rfl) ?_
      refine va_get (D := (dC, dI)) (ci := 0) (v := .ref qme0) (C := "PagedHart") (T := TX0) (N := 6) hx hb hts mU0 hown hK hP 0 rfl rfl 0 (by decide) (hts _ mF_0_10) (fun _ h9 => h9) rfl dX0_pokeFour_51 ?_
      refine lv_iload hx hb dX0_pokeFour_54 (lv_at hl 0 rfl) ?_
      refine lv_iconst (v := 2) hx hb dX0_pokeFour_56 (by decide) ?_
      refine lv_iadd hx hb dX0_pokeFour_57 ?_
      refine lv_iload hx hb dX0_pokeFour_58 (lv_at hl 5 rfl) ?_
      refine va_iast (D := (dC, dI)) hx hb hK hP hD hS 1 0 rfl rfl (by rw [ex5]; exact h_in4 2 (by rw [← ex1]; exact c2) (by rw [← ex3]; exact c4) (by decide)) dX0_pokeFour_60 (fun H locs hP hD hS => ?_)
      have hP : va_P (dC, dI) vwCl (gW cI h0 qme0 qre1 qco2 (upd (upd (upd st.1 x5.toNatClampNeg p2) (x5 + (1 : Int32)).toNatClampNeg p3) (x5 + (2 : Int32)).toNatClampNeg p4, st.2.1, st.2.2.1, st.2.2.2.1, st.2.2.2.2.1, st.2.2.2.2.2)) H := hP
      have hD : va_D (gA h0 qme0 qre1 qco2 s.heap.size) (gW cI h0 qme0 qre1 qco2 (upd (upd (upd st.1 x5.toNatClampNeg p2) (x5 + (1 : Int32)).toNatClampNeg p3) (x5 + (2 : Int32)).toNatClampNeg p4, st.2.1, st.2.2.1, st.2.2.2.1, st.2.2.2.2.1, st.2.2.2.2.2)) := hD
      refine lv_aload_n hx hb dX0_pokeFour_61 rfl (lv_at hl 1 rfl) ?_
      refine va_get (D := (dC, dI)) (ci := 0) (v := .ref qme0) (C := "PagedHart") (T := TX0) (N := 6) hx hb hts mU0 hown hK hP 0 rfl rfl 0 (by decide) (hts _ mF_0_10) (fun _ h9 => h9) rfl dX0_pokeFour_62 ?_
      refine lv_iload hx hb dX0_pokeFour_65 (lv_at hl 0 rfl) ?_
      refine lv_iconst (v := 3) hx hb dX0_pokeFour_67 (by decide) ?_
      refine lv_iadd hx hb dX0_pokeFour_68 ?_
      refine lv_iload hx hb dX0_pokeFour_69 (lv_at hl 6 rfl) ?_
      refine va_iast (D := (dC, dI)) hx hb hK hP hD hS 1 0 rfl rfl (by rw [ex5]; exact h_in4 3 (by rw [← ex1]; exact c2) (by rw [← ex3]; exact c4) (by decide)) dX0_pokeFour_71 (fun H locs hP hD hS => ?_)
      have hP : va_P (dC, dI) vwCl (gW cI h0 qme0 qre1 qco2 (upd (upd (upd (upd st.1 x5.toNatClampNeg p2) (x5 + (1 : Int32)).toNatClampNeg p3) (x5 + (2 : Int32)).toNatClampNeg p4) (x5 + (3 : Int32)).toNatClampNeg p5, st.2.1, st.2.2.1, st.2.2.2.1, st.2.2.2.2.1, st.2.2.2.2.2)) H := hP
      have hD : va_D (gA h0 qme0 qre1 qco2 s.heap.size) (gW cI h0 qme0 qre1 qco2 (upd (upd (upd (upd st.1 x5.toNatClampNeg p2) (x5 + (1 : Int32)).toNatClampNeg p3) (x5 + (2 : Int32)).toNatClampNeg p4) (x5 + (3 : Int32)).toNatClampNeg p5, st.2.1, st.2.2.1, st.2.2.2.1, st.2.2.2.2.1, st.2.2.2.2.2)) := hD
      exact gVretX (u := (upd (upd (upd (upd st.1 x5.toNatClampNeg p2) (x5 + (1 : Int32)).toNatClampNeg p3) (x5 + (2 : Int32)).toNatClampNeg p4) (x5 + (3 : Int32)).toNatClampNeg p5, st.2.1, st.2.2.1, st.2.2.2.1, st.2.2.2.2.1, st.2.2.2.2.2)) hx hb hr hlocks (by subst ex5 ex3 ex1; exact (((if_neg c2).trans ((if_neg c4).trans rfl))).symm) hK hP hD hS dX0_pokeFour_72
    · exact gThrow (u := st) hnt (by decide) hts mK_0_45 mN_IndexOutOfBoundsException xa_49 xg_49 hx hb hml hown hlocks htb hl.1 hK hP hD hS hX dX0_pokeFour_17 dX0_pokeFour_20 dX0_pokeFour_21 dX0_pokeFour_23 dX0_pokeFour_26 (Nat.le_of_ble_eq_true rfl) (Nat.le_of_ble_eq_true rfl) (Nat.le_of_ble_eq_true rfl) (Nat.le_of_ble_eq_true rfl) (by subst ex3 ex1; exact (((if_neg c2).trans ((if_pos c4).trans rfl))).symm)

def h_register (st : HS) (p1 : Int32) : Option (Int32 × HS) :=
  if p1 < 0 then
    none
  else
    if p1 ≤ (33 : Int32) then
      if p1 = (32 : Int32) then
        some (st.2.2.2.1, st)
      else
        if p1 = (33 : Int32) then
          some (st.2.2.2.2.1, st)
        else
          some ((st.2.1 p1.toNatClampNeg), st)
    else
      none
set_option maxHeartbeats 4000000 in
set_option maxRecDepth 100000 in
theorem ch_register (l : Launch) (dC : Nat → ClassId) (dI : Nat → Nat → Nat) (cI h0 qme0 qre1 qco2 tN tB : Nat) (hnt : l.stackTraces = false) (sa : Nat) (sz : Nat) (st : HS) (p1 : Int32)  : vx_Met l yX0_register (.code yX0_register cX0_register 2 (some .int) :: gBIG) ({ frames := 6, cells := 1, slots := 6, locals := 90 }) (va_Pc [.ref h0, .int p1] (gPreX "java/lang/IndexOutOfBoundsException" "registers are 0 to 33" 52 sa dC dI cI h0 qme0 qre1 qco2 tN tB sz st)) (va_Qi (fun r v => some (r, v) = h_register st p1) (gB dC dI cI h0 qme0 qre1 qco2 (gA h0 qme0 qre1 qco2 sz)) (gA h0 qme0 qre1 qco2 sz)) (vx_X (fun v : HS => v = st ∧ none = h_register st p1) (fun E v t => E = "java/lang/IndexOutOfBoundsException" ∧ gB dC dI cI h0 qme0 qre1 qco2 (gA h0 qme0 qre1 qco2 sz) v t) (gA h0 qme0 qre1 qco2 sz)) 1 6 (gA h0 qme0 qre1 qco2 sz) := by
  refine vx_ofW (cc := cX0_register) (maxL := 2) (ret := (some .int)) (by decide) rfl ?_
  intro p e s m args below meth c s₁ B hml htb hv
  obtain ⟨rfl, ⟨hsz, hP, hK, hD0, hZ⟩, hX⟩ := hv
  have hx := B.exec
  have hb := B.bytes
  have hr := B.returns
  have hts : ∀ w ∈ gBIG, w.before _ s = true := fun w h => atoms_spec (ws := (.code yX0_register cX0_register 2 (some .int) :: gBIG)) B.pre w (List.mem_cons_of_mem _ h)
  have hown : s.vm.findClass "PagedHart" = some m.cls := findClass_of_methodNamed B.named
  have hlocks := B.notSynchronized
  subst hsz
  have hD : va_D (gA h0 qme0 qre1 qco2 s.heap.size) (gW cI h0 qme0 qre1 qco2 st) := gD hD0
  have hS : va_S (gA h0 qme0 qre1 qco2 s.heap.size) s.heap s.heap [] := va_S.rf
  have hP : va_P (dC, dI) vwCl (gW cI h0 qme0 qre1 qco2 st) s.heap := hP
  have hl := lv_entry ([.ref h0, .int p1]) (n := 2) (Nat.le_of_ble_eq_true rfl)
  rw [lg_entry_eq]
  generalize (lg_sl ([.ref h0, .int p1]) ++ List.replicate (2 - (lg_sl ([.ref h0, .int p1])).length) Slot.unset).toArray = ls at hl ⊢
  refine jgo (P := fun H locs => va_P (dC, dI) vwCl (gW cI h0 qme0 qre1 qco2 st) H ∧ va_S (gA h0 qme0 qre1 qco2 s.heap.size) s.heap H locs) ⟨hP, hS⟩ (fun H locs hPS => ?_)
  obtain ⟨hP, hS⟩ := hPS
  have hl : lv_has ls 2 [(0, .ref h0), (1, .int p1)] := hl
  refine lv_iload_n hx hb dX0_register_0 rfl (lv_at hl 1 rfl) ?_
  refine lv_if_lt (tgt := 10) hx hb dX0_register_1 (by decide) (fun c1 => ?_) (fun c1 => ?_)
  · exact gThrow (u := st) hnt (by decide) hts mK_0_45 mN_IndexOutOfBoundsException xa_49 xg_49 hx hb hml hown hlocks htb hl.1 hK hP hD hS hX dX0_register_10 dX0_register_13 dX0_register_14 dX0_register_16 dX0_register_19 (Nat.le_of_ble_eq_true rfl) (Nat.le_of_ble_eq_true rfl) (Nat.le_of_ble_eq_true rfl) (Nat.le_of_ble_eq_true rfl) (by exact (((if_pos c1).trans rfl)).symm)
  · refine lv_iload_n hx hb dX0_register_4 rfl (lv_at hl 1 rfl) ?_
    refine lv_bipush (v := 33) hx hb dX0_register_5 (by decide) ?_
    refine lv_icmp_le (tgt := 20) hx hb dX0_register_7 (by decide) (fun c2 => ?_) (fun c2 => ?_)
    · refine lv_iload_n hx hb dX0_register_20 rfl (lv_at hl 1 rfl) ?_
      refine lv_bipush (v := 32) hx hb dX0_register_21 (by decide) ?_
      refine lv_icmp_ne (tgt := 31) hx hb dX0_register_23 (by decide) (fun c3 => ?_) (fun c3 => ?_)
      · refine lv_iload_n hx hb dX0_register_31 rfl (lv_at hl 1 rfl) ?_
        refine lv_bipush (v := 33) hx hb dX0_register_32 (by decide) ?_
        refine lv_icmp_ne (tgt := 44) hx hb dX0_register_34 (by decide) (fun c4 => ?_) (fun c4 => ?_)
        · refine lv_aload_n hx hb dX0_register_44 rfl (lv_at hl 0 rfl) ?_
          refine va_get (D := (dC, dI)) (ci := 0) (v := .ref qre1) (C := "PagedHart") (T := TX0) (N := 6) hx hb hts mU0 hown hK hP 0 rfl rfl 1 (by decide) (hts _ mF_0_14) (fun _ h9 => h9) rfl dX0_register_45 ?_
          refine lv_iload_n hx hb dX0_register_48 rfl (lv_at hl 1 rfl) ?_
          refine va_iald (D := (dC, dI)) hx hb hK hP 2 0 rfl rfl (h_inR c1 c2 c3 c4) dX0_register_49 ?_
          exact gIretX (v := st.2.1 p1.toNatClampNeg) (u := st) hx hb hr hlocks (by exact (((if_neg c1).trans ((if_pos c2).trans ((if_neg c3).trans ((if_neg c4).trans rfl))))).symm) hK hP hD hS dX0_register_50
        · refine lv_aload_n hx hb dX0_register_37 rfl (lv_at hl 0 rfl) ?_
          refine va_get (D := (dC, dI)) (ci := 0) (v := .int st.2.2.2.2.1) (C := "PagedHart") (T := TX0) (N := 6) hx hb hts mU0 hown hK hP 0 rfl rfl 4 (by decide) (hts _ mF_0_24) (fun _ h9 => h9) rfl dX0_register_38 ?_
          refine lv_goto (tgt := 50) hx hb dX0_register_41 (by decide) ?_
          exact gIretX (v := st.2.2.2.2.1) (u := st) hx hb hr hlocks (by exact (((if_neg c1).trans ((if_pos c2).trans ((if_neg c3).trans ((if_pos c4).trans rfl))))).symm) hK hP hD hS dX0_register_50
      · refine lv_aload_n hx hb dX0_register_26 rfl (lv_at hl 0 rfl) ?_
        refine va_get (D := (dC, dI)) (ci := 0) (v := .int st.2.2.2.1) (C := "PagedHart") (T := TX0) (N := 6) hx hb hts mU0 hown hK hP 0 rfl rfl 3 (by decide) (hts _ mF_0_20) (fun _ h9 => h9) rfl dX0_register_27 ?_
        exact gIretX (v := st.2.2.2.1) (u := st) hx hb hr hlocks (by exact (((if_neg c1).trans ((if_pos c2).trans ((if_pos c3).trans rfl)))).symm) hK hP hD hS dX0_register_30
    · exact gThrow (u := st) hnt (by decide) hts mK_0_45 mN_IndexOutOfBoundsException xa_49 xg_49 hx hb hml hown hlocks htb hl.1 hK hP hD hS hX dX0_register_10 dX0_register_13 dX0_register_14 dX0_register_16 dX0_register_19 (Nat.le_of_ble_eq_true rfl) (Nat.le_of_ble_eq_true rfl) (Nat.le_of_ble_eq_true rfl) (Nat.le_of_ble_eq_true rfl) (by exact (((if_neg c1).trans ((if_neg c2).trans rfl))).symm)

def h_setRegister (st : HS) (p1 : Int32) (p2 : Int32) : Option HS :=
  if p1 < 0 then
    none
  else
    if p1 ≤ (33 : Int32) then
      if p1 = (32 : Int32) then
        some (st.1, st.2.1, st.2.2.1, p2, st.2.2.2.2.1, st.2.2.2.2.2)
      else
        if p1 = (33 : Int32) then
          some (st.1, st.2.1, st.2.2.1, st.2.2.2.1, p2 &&& (1 : Int32), st.2.2.2.2.2)
        else
          if p1 = 0 then
            some st
          else
            some (st.1, upd st.2.1 p1.toNatClampNeg p2, st.2.2.1, st.2.2.2.1, st.2.2.2.2.1, st.2.2.2.2.2)
    else
      none
set_option maxHeartbeats 4000000 in
set_option maxRecDepth 100000 in
theorem ch_setRegister (l : Launch) (dC : Nat → ClassId) (dI : Nat → Nat → Nat) (cI h0 qme0 qre1 qco2 tN tB : Nat) (hnt : l.stackTraces = false) (sa : Nat) (sz : Nat) (st : HS) (p1 : Int32) (p2 : Int32)  : vx_Met l yX0_setRegister (.code yX0_setRegister cX0_setRegister 3 none :: gBIG) ({ frames := 6, cells := 1, slots := 6, locals := 90 }) (va_Pc [.ref h0, .int p1, .int p2] (gPreX "java/lang/IndexOutOfBoundsException" "registers are 0 to 33" 52 sa dC dI cI h0 qme0 qre1 qco2 tN tB sz st)) (va_Qv (fun v => some v = h_setRegister st p1 p2) (gB dC dI cI h0 qme0 qre1 qco2 (gA h0 qme0 qre1 qco2 sz)) (gA h0 qme0 qre1 qco2 sz)) (vx_X (fun v : HS => v = st ∧ none = h_setRegister st p1 p2) (fun E v t => E = "java/lang/IndexOutOfBoundsException" ∧ gB dC dI cI h0 qme0 qre1 qco2 (gA h0 qme0 qre1 qco2 sz) v t) (gA h0 qme0 qre1 qco2 sz)) 1 6 (gA h0 qme0 qre1 qco2 sz) := by
  refine vx_ofW (cc := cX0_setRegister) (maxL := 3) (ret := none) (by decide) rfl ?_
  intro p e s m args below meth c s₁ B hml htb hv
  obtain ⟨rfl, ⟨hsz, hP, hK, hD0, hZ⟩, hX⟩ := hv
  have hx := B.exec
  have hb := B.bytes
  have hr := B.returns
  have hts : ∀ w ∈ gBIG, w.before _ s = true := fun w h => atoms_spec (ws := (.code yX0_setRegister cX0_setRegister 3 none :: gBIG)) B.pre w (List.mem_cons_of_mem _ h)
  have hown : s.vm.findClass "PagedHart" = some m.cls := findClass_of_methodNamed B.named
  have hlocks := B.notSynchronized
  subst hsz
  have hD : va_D (gA h0 qme0 qre1 qco2 s.heap.size) (gW cI h0 qme0 qre1 qco2 st) := gD hD0
  have hS : va_S (gA h0 qme0 qre1 qco2 s.heap.size) s.heap s.heap [] := va_S.rf
  have hP : va_P (dC, dI) vwCl (gW cI h0 qme0 qre1 qco2 st) s.heap := hP
  have hl := lv_entry ([.ref h0, .int p1, .int p2]) (n := 3) (Nat.le_of_ble_eq_true rfl)
  rw [lg_entry_eq]
  generalize (lg_sl ([.ref h0, .int p1, .int p2]) ++ List.replicate (3 - (lg_sl ([.ref h0, .int p1, .int p2])).length) Slot.unset).toArray = ls at hl ⊢
  refine jgo (P := fun H locs => va_P (dC, dI) vwCl (gW cI h0 qme0 qre1 qco2 st) H ∧ va_S (gA h0 qme0 qre1 qco2 s.heap.size) s.heap H locs) ⟨hP, hS⟩ (fun H locs hPS => ?_)
  obtain ⟨hP, hS⟩ := hPS
  have hl : lv_has ls 3 [(0, .ref h0), (1, .int p1), (2, .int p2)] := hl
  refine lv_iload_n hx hb dX0_setRegister_0 rfl (lv_at hl 1 rfl) ?_
  refine lv_if_lt (tgt := 10) hx hb dX0_setRegister_1 (by decide) (fun c1 => ?_) (fun c1 => ?_)
  · exact gThrow (u := st) hnt (by decide) hts mK_0_45 mN_IndexOutOfBoundsException xa_49 xg_49 hx hb hml hown hlocks htb hl.1 hK hP hD hS hX dX0_setRegister_10 dX0_setRegister_13 dX0_setRegister_14 dX0_setRegister_16 dX0_setRegister_19 (Nat.le_of_ble_eq_true rfl) (Nat.le_of_ble_eq_true rfl) (Nat.le_of_ble_eq_true rfl) (Nat.le_of_ble_eq_true rfl) (by exact (((if_pos c1).trans rfl)).symm)
  · refine lv_iload_n hx hb dX0_setRegister_4 rfl (lv_at hl 1 rfl) ?_
    refine lv_bipush (v := 33) hx hb dX0_setRegister_5 (by decide) ?_
    refine lv_icmp_le (tgt := 20) hx hb dX0_setRegister_7 (by decide) (fun c2 => ?_) (fun c2 => ?_)
    · refine lv_iload_n hx hb dX0_setRegister_20 rfl (lv_at hl 1 rfl) ?_
      refine lv_bipush (v := 32) hx hb dX0_setRegister_21 (by decide) ?_
      refine lv_icmp_ne (tgt := 34) hx hb dX0_setRegister_23 (by decide) (fun c3 => ?_) (fun c3 => ?_)
      · refine lv_iload_n hx hb dX0_setRegister_34 rfl (lv_at hl 1 rfl) ?_
        refine lv_bipush (v := 33) hx hb dX0_setRegister_35 (by decide) ?_
        refine lv_icmp_ne (tgt := 50) hx hb dX0_setRegister_37 (by decide) (fun c4 => ?_) (fun c4 => ?_)
        · refine lv_iload_n hx hb dX0_setRegister_50 rfl (lv_at hl 1 rfl) ?_
          refine lv_if_eq (tgt := 61) hx hb dX0_setRegister_51 (by decide) (fun c5 => ?_) (fun c5 => ?_)
          · exact gVretX (u := st) hx hb hr hlocks (by exact (((if_neg c1).trans ((if_pos c2).trans ((if_neg c3).trans ((if_neg c4).trans ((if_pos c5).trans rfl)))))).symm) hK hP hD hS dX0_setRegister_61
          · refine lv_aload_n hx hb dX0_setRegister_54 rfl (lv_at hl 0 rfl) ?_
            refine va_get (D := (dC, dI)) (ci := 0) (v := .ref qre1) (C := "PagedHart") (T := TX0) (N := 6) hx hb hts mU0 hown hK hP 0 rfl rfl 1 (by decide) (hts _ mF_0_14) (fun _ h9 => h9) rfl dX0_setRegister_55 ?_
            refine lv_iload_n hx hb dX0_setRegister_58 rfl (lv_at hl 1 rfl) ?_
            refine lv_iload_n hx hb dX0_setRegister_59 rfl (lv_at hl 2 rfl) ?_
            refine va_iast (D := (dC, dI)) hx hb hK hP hD hS 2 0 rfl rfl (h_inR c1 c2 c3 c4) dX0_setRegister_60 (fun H locs hP hD hS => ?_)
            have hP : va_P (dC, dI) vwCl (gW cI h0 qme0 qre1 qco2 (st.1, upd st.2.1 p1.toNatClampNeg p2, st.2.2.1, st.2.2.2.1, st.2.2.2.2.1, st.2.2.2.2.2)) H := hP
            have hD : va_D (gA h0 qme0 qre1 qco2 s.heap.size) (gW cI h0 qme0 qre1 qco2 (st.1, upd st.2.1 p1.toNatClampNeg p2, st.2.2.1, st.2.2.2.1, st.2.2.2.2.1, st.2.2.2.2.2)) := hD
            exact gVretX (u := (st.1, upd st.2.1 p1.toNatClampNeg p2, st.2.2.1, st.2.2.2.1, st.2.2.2.2.1, st.2.2.2.2.2)) hx hb hr hlocks (by exact (((if_neg c1).trans ((if_pos c2).trans ((if_neg c3).trans ((if_neg c4).trans ((if_neg c5).trans rfl)))))).symm) hK hP hD hS dX0_setRegister_61
        · refine lv_aload_n hx hb dX0_setRegister_40 rfl (lv_at hl 0 rfl) ?_
          refine lv_iload_n hx hb dX0_setRegister_41 rfl (lv_at hl 2 rfl) ?_
          refine lv_iconst (v := 1) hx hb dX0_setRegister_42 (by decide) ?_
          refine lv_iand hx hb dX0_setRegister_43 ?_
          refine va_put (D := (dC, dI)) (ci := 0) (v := .int (p2 &&& (1 : Int32))) (ty := .int) (C := "PagedHart") (T := TX0) (N := 6) hx hb hts mU0 tyX0 tyX0_ok nmX0 hown hK hP hD hS 0 rfl rfl 4 (by decide) (hts _ mF_0_24) (fun _ h9 => h9) rfl (by decide +kernel) rfl rfl (Nat.le_of_ble_eq_true rfl) dX0_setRegister_44 (fun H locs hP hD hS => ?_)
          have hP : va_P (dC, dI) vwCl (gW cI h0 qme0 qre1 qco2 (st.1, st.2.1, st.2.2.1, st.2.2.2.1, p2 &&& (1 : Int32), st.2.2.2.2.2)) H := hP
          have hD : va_D (gA h0 qme0 qre1 qco2 s.heap.size) (gW cI h0 qme0 qre1 qco2 (st.1, st.2.1, st.2.2.1, st.2.2.2.1, p2 &&& (1 : Int32), st.2.2.2.2.2)) := hD
          refine lv_goto (tgt := 61) hx hb dX0_setRegister_47 (by decide) ?_
          exact gVretX (u := (st.1, st.2.1, st.2.2.1, st.2.2.2.1, p2 &&& (1 : Int32), st.2.2.2.2.2)) hx hb hr hlocks (by exact (((if_neg c1).trans ((if_pos c2).trans ((if_neg c3).trans ((if_pos c4).trans rfl))))).symm) hK hP hD hS dX0_setRegister_61
      · refine lv_aload_n hx hb dX0_setRegister_26 rfl (lv_at hl 0 rfl) ?_
        refine lv_iload_n hx hb dX0_setRegister_27 rfl (lv_at hl 2 rfl) ?_
        refine va_put (D := (dC, dI)) (ci := 0) (v := .int p2) (ty := .int) (C := "PagedHart") (T := TX0) (N := 6) hx hb hts mU0 tyX0 tyX0_ok nmX0 hown hK hP hD hS 0 rfl rfl 3 (by decide) (hts _ mF_0_20) (fun _ h9 => h9) rfl (by decide +kernel) rfl rfl (Nat.le_of_ble_eq_true rfl) dX0_setRegister_28 (fun H locs hP hD hS => ?_)
        have hP : va_P (dC, dI) vwCl (gW cI h0 qme0 qre1 qco2 (st.1, st.2.1, st.2.2.1, p2, st.2.2.2.2.1, st.2.2.2.2.2)) H := hP
        have hD : va_D (gA h0 qme0 qre1 qco2 s.heap.size) (gW cI h0 qme0 qre1 qco2 (st.1, st.2.1, st.2.2.1, p2, st.2.2.2.2.1, st.2.2.2.2.2)) := hD
        refine lv_goto (tgt := 61) hx hb dX0_setRegister_31 (by decide) ?_
        exact gVretX (u := (st.1, st.2.1, st.2.2.1, p2, st.2.2.2.2.1, st.2.2.2.2.2)) hx hb hr hlocks (by exact (((if_neg c1).trans ((if_pos c2).trans ((if_pos c3).trans rfl)))).symm) hK hP hD hS dX0_setRegister_61
    · exact gThrow (u := st) hnt (by decide) hts mK_0_45 mN_IndexOutOfBoundsException xa_49 xg_49 hx hb hml hown hlocks htb hl.1 hK hP hD hS hX dX0_setRegister_10 dX0_setRegister_13 dX0_setRegister_14 dX0_setRegister_16 dX0_setRegister_19 (Nat.le_of_ble_eq_true rfl) (Nat.le_of_ble_eq_true rfl) (Nat.le_of_ble_eq_true rfl) (Nat.le_of_ble_eq_true rfl) (by exact (((if_neg c1).trans ((if_neg c2).trans rfl))).symm)

def h_translate (st : HS) (p1 : Int32) (p2 : Int32) : Option (Int32 × HS) :=
  if p2 < 0 then
    none
  else
    if p2 ≤ (2 : Int32) then
      let x3 : Int32 := h_locate st p1 p2
      some (x3, st)
    else
      none
set_option maxHeartbeats 4000000 in
set_option maxRecDepth 100000 in
theorem ch_translate (l : Launch) (dC : Nat → ClassId) (dI : Nat → Nat → Nat) (cI h0 qme0 qre1 qco2 tN tB : Nat) (hnt : l.stackTraces = false) (sa : Nat) (sz : Nat) (st : HS) (p1 : Int32) (p2 : Int32)  : vx_Met l yX0_translate (.code yX0_translate cX0_translate 3 (some .int) :: gBIG) ({ frames := 6, cells := 1, slots := 6, locals := 90 }) (va_Pc [.ref h0, .int p1, .int p2] (gPreX "java/lang/IllegalArgumentException" "how is 0, 1 or 2" 66 sa dC dI cI h0 qme0 qre1 qco2 tN tB sz st)) (va_Qi (fun r v => some (r, v) = h_translate st p1 p2) (gB dC dI cI h0 qme0 qre1 qco2 (gA h0 qme0 qre1 qco2 sz)) (gA h0 qme0 qre1 qco2 sz)) (vx_X (fun v : HS => v = st ∧ none = h_translate st p1 p2) (fun E v t => E = "java/lang/IllegalArgumentException" ∧ gB dC dI cI h0 qme0 qre1 qco2 (gA h0 qme0 qre1 qco2 sz) v t) (gA h0 qme0 qre1 qco2 sz)) 1 6 (gA h0 qme0 qre1 qco2 sz) := by
  refine vx_ofW (cc := cX0_translate) (maxL := 3) (ret := (some .int)) (by decide) rfl ?_
  intro p e s m args below meth c s₁ B hml htb hv
  obtain ⟨rfl, ⟨hsz, hP, hK, hD0, hZ⟩, hX⟩ := hv
  have hx := B.exec
  have hb := B.bytes
  have hr := B.returns
  have hts : ∀ w ∈ gBIG, w.before _ s = true := fun w h => atoms_spec (ws := (.code yX0_translate cX0_translate 3 (some .int) :: gBIG)) B.pre w (List.mem_cons_of_mem _ h)
  have hown : s.vm.findClass "PagedHart" = some m.cls := findClass_of_methodNamed B.named
  have hlocks := B.notSynchronized
  subst hsz
  have hD : va_D (gA h0 qme0 qre1 qco2 s.heap.size) (gW cI h0 qme0 qre1 qco2 st) := gD hD0
  have hS : va_S (gA h0 qme0 qre1 qco2 s.heap.size) s.heap s.heap [] := va_S.rf
  have hP : va_P (dC, dI) vwCl (gW cI h0 qme0 qre1 qco2 st) s.heap := hP
  have hl := lv_entry ([.ref h0, .int p1, .int p2]) (n := 3) (Nat.le_of_ble_eq_true rfl)
  rw [lg_entry_eq]
  generalize (lg_sl ([.ref h0, .int p1, .int p2]) ++ List.replicate (3 - (lg_sl ([.ref h0, .int p1, .int p2])).length) Slot.unset).toArray = ls at hl ⊢
  refine jgo (P := fun H locs => va_P (dC, dI) vwCl (gW cI h0 qme0 qre1 qco2 st) H ∧ va_S (gA h0 qme0 qre1 qco2 s.heap.size) s.heap H locs) ⟨hP, hS⟩ (fun H locs hPS => ?_)
  obtain ⟨hP, hS⟩ := hPS
  have hl : lv_has ls 3 [(0, .ref h0), (1, .int p1), (2, .int p2)] := hl
  refine lv_iload_n hx hb dX0_translate_0 rfl (lv_at hl 2 rfl) ?_
  refine lv_if_lt (tgt := 9) hx hb dX0_translate_1 (by decide) (fun c1 => ?_) (fun c1 => ?_)
  · exact gThrow (u := st) hnt (by decide) hts mK_0_31 mN_IllegalArgumentException xa_35 xg_35 hx hb hml hown hlocks htb hl.1 hK hP hD hS hX dX0_translate_9 dX0_translate_12 dX0_translate_13 dX0_translate_15 dX0_translate_18 (Nat.le_of_ble_eq_true rfl) (Nat.le_of_ble_eq_true rfl) (Nat.le_of_ble_eq_true rfl) (Nat.le_of_ble_eq_true rfl) (by exact (((if_pos c1).trans rfl)).symm)
  · refine lv_iload_n hx hb dX0_translate_4 rfl (lv_at hl 2 rfl) ?_
    refine lv_iconst (v := 2) hx hb dX0_translate_5 (by decide) ?_
    refine lv_icmp_le (tgt := 19) hx hb dX0_translate_6 (by decide) (fun c2 => ?_) (fun c2 => ?_)
    · refine lv_aload_n hx hb dX0_translate_19 rfl (lv_at hl 0 rfl) ?_
      refine lv_iload_n hx hb dX0_translate_20 rfl (lv_at hl 1 rfl) ?_
      refine lv_iload_n hx hb dX0_translate_21 rfl (lv_at hl 2 rfl) ?_
      refine gR (As := [.int p1, .int p2]) (rest := []) (f := h_locate st p1 p2) ⟨hx, hb, hml, hown, hts⟩ (ch_locate l dC dI cI h0 qme0 qre1 qco2 tN tB H.size st p1 p2) (cwV 2 hts (gV mL_0_68 mI_0_locate mX_0_locate mN_0 mB_0_locate) rfl rfl rfl (by decide +kernel) ⟨Nat.le_of_ble_eq_true rfl, Nat.le_of_ble_eq_true rfl⟩) hK hP hD hS hZ rfl hl.1 rfl (Nat.le_of_ble_eq_true rfl) dX0_translate_22 ⟨Nat.zero_le _, Nat.zero_le _⟩ ?_
      refine lv_topi (fun x3 ex3 => ?_)
      exact gIretX (v := x3) (u := st) hx hb hr hlocks (by subst ex3; exact (((if_neg c1).trans ((if_pos c2).trans rfl))).symm) hK hP hD hS dX0_translate_25
    · exact gThrow (u := st) hnt (by decide) hts mK_0_31 mN_IllegalArgumentException xa_35 xg_35 hx hb hml hown hlocks htb hl.1 hK hP hD hS hX dX0_translate_9 dX0_translate_12 dX0_translate_13 dX0_translate_15 dX0_translate_18 (Nat.le_of_ble_eq_true rfl) (Nat.le_of_ble_eq_true rfl) (Nat.le_of_ble_eq_true rfl) (Nat.le_of_ble_eq_true rfl) (by exact (((if_neg c1).trans ((if_neg c2).trans rfl))).symm)
end
