section
-- ===== PART A: goes FIRST, ahead of the names: the tables' words, and 'selects' of the private methods out of them =====
/-- a private method of a class that the tables say can be made, by its rows of tables_1 -/
def lw_okq (q : MethodName × Nat) : Prop := (q.1.cls ≠ "java/lang/invoke/MethodHandle" ∧ q.1.cls ≠ "java/lang/invoke/VarHandle") ∧ Cond.instantiable q.1.cls q.2 ∈ tables_1 ∧ Cond.privateMethod q.1 ∈ tables_1 ∧ Cond.instanceMethod q.1 ∈ tables_1
theorem lw_p0 : lw_okq (⟨"BuildDrawer$Drawing", "begin", "(JII)V"⟩, 9) := ⟨⟨by decide +kernel, by decide +kernel⟩, List.mem_of_getElem? (i := 18) (by decide +kernel), List.mem_of_getElem? (i := 110) (by decide +kernel), List.mem_of_getElem? (i := 111) (by decide +kernel)⟩
theorem lw_p1 : lw_okq (⟨"BuildDrawer$Drawing", "chance", "(I)I"⟩, 9) := ⟨⟨by decide +kernel, by decide +kernel⟩, List.mem_of_getElem? (i := 18) (by decide +kernel), List.mem_of_getElem? (i := 117) (by decide +kernel), List.mem_of_getElem? (i := 118) (by decide +kernel)⟩
theorem lw_p2 : lw_okq (⟨"BuildDrawer$Drawing", "next", "()V"⟩, 9) := ⟨⟨by decide +kernel, by decide +kernel⟩, List.mem_of_getElem? (i := 18) (by decide +kernel), List.mem_of_getElem? (i := 126) (by decide +kernel), List.mem_of_getElem? (i := 127) (by decide +kernel)⟩
theorem lw_p3 : lw_okq (⟨"BuildDrawer$Drawing", "nextSort", "()I"⟩, 9) := ⟨⟨by decide +kernel, by decide +kernel⟩, List.mem_of_getElem? (i := 18) (by decide +kernel), List.mem_of_getElem? (i := 130) (by decide +kernel), List.mem_of_getElem? (i := 131) (by decide +kernel)⟩
theorem lw_p4 : lw_okq (⟨"BuildDrawer$Drawing", "nextB", "()I"⟩, 9) := ⟨⟨by decide +kernel, by decide +kernel⟩, List.mem_of_getElem? (i := 18) (by decide +kernel), List.mem_of_getElem? (i := 134) (by decide +kernel), List.mem_of_getElem? (i := 135) (by decide +kernel)⟩
theorem lw_p5 : lw_okq (⟨"BuildDrawer$Drawing", "nextBOfStep", "()I"⟩, 9) := ⟨⟨by decide +kernel, by decide +kernel⟩, List.mem_of_getElem? (i := 18) (by decide +kernel), List.mem_of_getElem? (i := 138) (by decide +kernel), List.mem_of_getElem? (i := 139) (by decide +kernel)⟩
theorem lw_p6 : lw_okq (⟨"BuildDrawer$Drawing", "nextNeed", "()I"⟩, 9) := ⟨⟨by decide +kernel, by decide +kernel⟩, List.mem_of_getElem? (i := 18) (by decide +kernel), List.mem_of_getElem? (i := 142) (by decide +kernel), List.mem_of_getElem? (i := 143) (by decide +kernel)⟩
theorem lw_p7 : lw_okq (⟨"BuildDrawer", "takeAllBack", "()V"⟩, 14) := ⟨⟨by decide +kernel, by decide +kernel⟩, List.mem_of_getElem? (i := 10) (by decide +kernel), List.mem_of_getElem? (i := 146) (by decide +kernel), List.mem_of_getElem? (i := 147) (by decide +kernel)⟩
theorem lw_p8 : lw_okq (⟨"BuildDrawer", "isPart", "(I)Z"⟩, 14) := ⟨⟨by decide +kernel, by decide +kernel⟩, List.mem_of_getElem? (i := 10) (by decide +kernel), List.mem_of_getElem? (i := 154) (by decide +kernel), List.mem_of_getElem? (i := 155) (by decide +kernel)⟩
theorem lw_p9 : lw_okq (⟨"BuildDrawer", "commonSet", "()I"⟩, 14) := ⟨⟨by decide +kernel, by decide +kernel⟩, List.mem_of_getElem? (i := 10) (by decide +kernel), List.mem_of_getElem? (i := 159) (by decide +kernel), List.mem_of_getElem? (i := 160) (by decide +kernel)⟩
theorem lw_p10 : lw_okq (⟨"BuildDrawer", "writeText", "()V"⟩, 14) := ⟨⟨by decide +kernel, by decide +kernel⟩, List.mem_of_getElem? (i := 10) (by decide +kernel), List.mem_of_getElem? (i := 174) (by decide +kernel), List.mem_of_getElem? (i := 175) (by decide +kernel)⟩
theorem lw_p11 : lw_okq (⟨"BuildDrawer", "writePart", "(I)V"⟩, 14) := ⟨⟨by decide +kernel, by decide +kernel⟩, List.mem_of_getElem? (i := 10) (by decide +kernel), List.mem_of_getElem? (i := 178) (by decide +kernel), List.mem_of_getElem? (i := 179) (by decide +kernel)⟩
theorem lw_p12 : lw_okq (⟨"BuildDrawer", "writeSign", "(C)V"⟩, 14) := ⟨⟨by decide +kernel, by decide +kernel⟩, List.mem_of_getElem? (i := 10) (by decide +kernel), List.mem_of_getElem? (i := 234) (by decide +kernel), List.mem_of_getElem? (i := 235) (by decide +kernel)⟩
theorem lw_p13 : lw_okq (⟨"BuildDrawer", "writeNumber", "(I)V"⟩, 14) := ⟨⟨by decide +kernel, by decide +kernel⟩, List.mem_of_getElem? (i := 10) (by decide +kernel), List.mem_of_getElem? (i := 238) (by decide +kernel), List.mem_of_getElem? (i := 239) (by decide +kernel)⟩
theorem lw_p14 : lw_okq (⟨"BuildDrawer", "writeDigit", "(I)V"⟩, 14) := ⟨⟨by decide +kernel, by decide +kernel⟩, List.mem_of_getElem? (i := 10) (by decide +kernel), List.mem_of_getElem? (i := 242) (by decide +kernel), List.mem_of_getElem? (i := 243) (by decide +kernel)⟩
theorem lw_p15 : lw_okq (⟨"BuildDrawer", "marksLeft", "()I"⟩, 14) := ⟨⟨by decide +kernel, by decide +kernel⟩, List.mem_of_getElem? (i := 10) (by decide +kernel), List.mem_of_getElem? (i := 255) (by decide +kernel), List.mem_of_getElem? (i := 256) (by decide +kernel)⟩
def lw_privs_1 : List (MethodName × Nat) := [(⟨"BuildDrawer$Drawing", "begin", "(JII)V"⟩, 9), (⟨"BuildDrawer$Drawing", "chance", "(I)I"⟩, 9), (⟨"BuildDrawer$Drawing", "next", "()V"⟩, 9), (⟨"BuildDrawer$Drawing", "nextSort", "()I"⟩, 9), (⟨"BuildDrawer$Drawing", "nextB", "()I"⟩, 9), (⟨"BuildDrawer$Drawing", "nextBOfStep", "()I"⟩, 9), (⟨"BuildDrawer$Drawing", "nextNeed", "()I"⟩, 9), (⟨"BuildDrawer", "takeAllBack", "()V"⟩, 14), (⟨"BuildDrawer", "isPart", "(I)Z"⟩, 14), (⟨"BuildDrawer", "commonSet", "()I"⟩, 14), (⟨"BuildDrawer", "writeText", "()V"⟩, 14), (⟨"BuildDrawer", "writePart", "(I)V"⟩, 14), (⟨"BuildDrawer", "writeSign", "(C)V"⟩, 14), (⟨"BuildDrawer", "writeNumber", "(I)V"⟩, 14), (⟨"BuildDrawer", "writeDigit", "(I)V"⟩, 14), (⟨"BuildDrawer", "marksLeft", "()I"⟩, 14)]
theorem lw_r1 : ∀ q ∈ lw_privs_1, lw_okq q := List.forall_mem_cons.mpr ⟨lw_p0, List.forall_mem_cons.mpr ⟨lw_p1, List.forall_mem_cons.mpr ⟨lw_p2, List.forall_mem_cons.mpr ⟨lw_p3, List.forall_mem_cons.mpr ⟨lw_p4, List.forall_mem_cons.mpr ⟨lw_p5, List.forall_mem_cons.mpr ⟨lw_p6, List.forall_mem_cons.mpr ⟨lw_p7, List.forall_mem_cons.mpr ⟨lw_p8, List.forall_mem_cons.mpr ⟨lw_p9, List.forall_mem_cons.mpr ⟨lw_p10, List.forall_mem_cons.mpr ⟨lw_p11, List.forall_mem_cons.mpr ⟨lw_p12, List.forall_mem_cons.mpr ⟨lw_p13, List.forall_mem_cons.mpr ⟨lw_p14, List.forall_mem_cons.mpr ⟨lw_p15, fun _ h => absurd h List.not_mem_nil⟩⟩⟩⟩⟩⟩⟩⟩⟩⟩⟩⟩⟩⟩⟩⟩
theorem lw_p16 : lw_okq (⟨"BuildDrawer", "holdsOf", "(I)Z"⟩, 14) := ⟨⟨by decide +kernel, by decide +kernel⟩, List.mem_of_getElem? (i := 10) (by decide +kernel), List.mem_of_getElem? (i := 259) (by decide +kernel), List.mem_of_getElem? (i := 260) (by decide +kernel)⟩
theorem lw_p17 : lw_okq (⟨"BuildDrawer", "leaveOutAllThatCanGo", "()V"⟩, 14) := ⟨⟨by decide +kernel, by decide +kernel⟩, List.mem_of_getElem? (i := 10) (by decide +kernel), List.mem_of_getElem? (i := 263) (by decide +kernel), List.mem_of_getElem? (i := 264) (by decide +kernel)⟩
theorem lw_p18 : lw_okq (⟨"BuildDrawer", "leaveOutFromLastToFirst", "()Z"⟩, 14) := ⟨⟨by decide +kernel, by decide +kernel⟩, List.mem_of_getElem? (i := 10) (by decide +kernel), List.mem_of_getElem? (i := 267) (by decide +kernel), List.mem_of_getElem? (i := 268) (by decide +kernel)⟩
theorem lw_p19 : lw_okq (⟨"BuildDrawer", "canGo", "(I)Z"⟩, 14) := ⟨⟨by decide +kernel, by decide +kernel⟩, List.mem_of_getElem? (i := 10) (by decide +kernel), List.mem_of_getElem? (i := 271) (by decide +kernel), List.mem_of_getElem? (i := 272) (by decide +kernel)⟩
theorem lw_p20 : lw_okq (⟨"BuildDrawer", "countLeft", "()I"⟩, 14) := ⟨⟨by decide +kernel, by decide +kernel⟩, List.mem_of_getElem? (i := 10) (by decide +kernel), List.mem_of_getElem? (i := 275) (by decide +kernel), List.mem_of_getElem? (i := 276) (by decide +kernel)⟩
theorem lw_p21 : lw_okq (⟨"BuildDrawer$Drawing", "isAtTheLikeOf", "(LBuildDrawer$Drawing;)Z"⟩, 9) := ⟨⟨by decide +kernel, by decide +kernel⟩, List.mem_of_getElem? (i := 18) (by decide +kernel), List.mem_of_getElem? (i := 291) (by decide +kernel), List.mem_of_getElem? (i := 292) (by decide +kernel)⟩
theorem lw_p22 : lw_okq (⟨"BuildDrawerModel", "fill", "(JIII)V"⟩, 16) := ⟨⟨by decide +kernel, by decide +kernel⟩, List.mem_of_getElem? (i := 298) (by decide +kernel), List.mem_of_getElem? (i := 360) (by decide +kernel), List.mem_of_getElem? (i := 361) (by decide +kernel)⟩
theorem lw_p23 : lw_okq (⟨"BuildDrawerModel", "chance", "(I)I"⟩, 16) := ⟨⟨by decide +kernel, by decide +kernel⟩, List.mem_of_getElem? (i := 298) (by decide +kernel), List.mem_of_getElem? (i := 365) (by decide +kernel), List.mem_of_getElem? (i := 366) (by decide +kernel)⟩
theorem lw_p24 : lw_okq (⟨"BuildDrawerModel", "drawB", "(I)I"⟩, 16) := ⟨⟨by decide +kernel, by decide +kernel⟩, List.mem_of_getElem? (i := 298) (by decide +kernel), List.mem_of_getElem? (i := 374) (by decide +kernel), List.mem_of_getElem? (i := 375) (by decide +kernel)⟩
theorem lw_p25 : lw_okq (⟨"BuildDrawerModel", "holds", "(I)Z"⟩, 16) := ⟨⟨by decide +kernel, by decide +kernel⟩, List.mem_of_getElem? (i := 298) (by decide +kernel), List.mem_of_getElem? (i := 390) (by decide +kernel), List.mem_of_getElem? (i := 391) (by decide +kernel)⟩
theorem lw_p26 : lw_okq (⟨"BuildDrawerModel", "canGo", "(I)Z"⟩, 16) := ⟨⟨by decide +kernel, by decide +kernel⟩, List.mem_of_getElem? (i := 298) (by decide +kernel), List.mem_of_getElem? (i := 394) (by decide +kernel), List.mem_of_getElem? (i := 395) (by decide +kernel)⟩
theorem lw_p27 : lw_okq (⟨"BuildDrawerModel", "count", "()I"⟩, 16) := ⟨⟨by decide +kernel, by decide +kernel⟩, List.mem_of_getElem? (i := 298) (by decide +kernel), List.mem_of_getElem? (i := 398) (by decide +kernel), List.mem_of_getElem? (i := 399) (by decide +kernel)⟩
theorem lw_p28 : lw_okq (⟨"BuildDrawerModel", "shared", "()J"⟩, 16) := ⟨⟨by decide +kernel, by decide +kernel⟩, List.mem_of_getElem? (i := 298) (by decide +kernel), List.mem_of_getElem? (i := 415) (by decide +kernel), List.mem_of_getElem? (i := 416) (by decide +kernel)⟩
theorem lw_p29 : lw_okq (⟨"BuildDrawerModel", "say", "(I)V"⟩, 16) := ⟨⟨by decide +kernel, by decide +kernel⟩, List.mem_of_getElem? (i := 298) (by decide +kernel), List.mem_of_getElem? (i := 427) (by decide +kernel), List.mem_of_getElem? (i := 428) (by decide +kernel)⟩
theorem lw_p30 : lw_okq (⟨"BuildDrawerModel", "sayNumber", "(I)V"⟩, 16) := ⟨⟨by decide +kernel, by decide +kernel⟩, List.mem_of_getElem? (i := 298) (by decide +kernel), List.mem_of_getElem? (i := 431) (by decide +kernel), List.mem_of_getElem? (i := 432) (by decide +kernel)⟩
def lw_privs_2 : List (MethodName × Nat) := [(⟨"BuildDrawer", "holdsOf", "(I)Z"⟩, 14), (⟨"BuildDrawer", "leaveOutAllThatCanGo", "()V"⟩, 14), (⟨"BuildDrawer", "leaveOutFromLastToFirst", "()Z"⟩, 14), (⟨"BuildDrawer", "canGo", "(I)Z"⟩, 14), (⟨"BuildDrawer", "countLeft", "()I"⟩, 14), (⟨"BuildDrawer$Drawing", "isAtTheLikeOf", "(LBuildDrawer$Drawing;)Z"⟩, 9), (⟨"BuildDrawerModel", "fill", "(JIII)V"⟩, 16), (⟨"BuildDrawerModel", "chance", "(I)I"⟩, 16), (⟨"BuildDrawerModel", "drawB", "(I)I"⟩, 16), (⟨"BuildDrawerModel", "holds", "(I)Z"⟩, 16), (⟨"BuildDrawerModel", "canGo", "(I)Z"⟩, 16), (⟨"BuildDrawerModel", "count", "()I"⟩, 16), (⟨"BuildDrawerModel", "shared", "()J"⟩, 16), (⟨"BuildDrawerModel", "say", "(I)V"⟩, 16), (⟨"BuildDrawerModel", "sayNumber", "(I)V"⟩, 16)]
theorem lw_r2 : ∀ q ∈ lw_privs_2, lw_okq q := List.forall_mem_cons.mpr ⟨lw_p16, List.forall_mem_cons.mpr ⟨lw_p17, List.forall_mem_cons.mpr ⟨lw_p18, List.forall_mem_cons.mpr ⟨lw_p19, List.forall_mem_cons.mpr ⟨lw_p20, List.forall_mem_cons.mpr ⟨lw_p21, List.forall_mem_cons.mpr ⟨lw_p22, List.forall_mem_cons.mpr ⟨lw_p23, List.forall_mem_cons.mpr ⟨lw_p24, List.forall_mem_cons.mpr ⟨lw_p25, List.forall_mem_cons.mpr ⟨lw_p26, List.forall_mem_cons.mpr ⟨lw_p27, List.forall_mem_cons.mpr ⟨lw_p28, List.forall_mem_cons.mpr ⟨lw_p29, List.forall_mem_cons.mpr ⟨lw_p30, fun _ h => absurd h List.not_mem_nil⟩⟩⟩⟩⟩⟩⟩⟩⟩⟩⟩⟩⟩⟩⟩
def lw_privs : List (MethodName × Nat) := lw_privs_1 ++ (lw_privs_2)
def lw_tbl : List Cond := k2_sels lw_privs ++ tables_1
theorem lw_privs_ok : ∀ q ∈ lw_privs, lw_okq q := by
  show ∀ q ∈ lw_privs_1 ++ (lw_privs_2), lw_okq q
  exact List.forall_mem_append.mpr ⟨lw_r1, lw_r2⟩
end
section
/-! the words that every method of mine is given: those of the tables that keep, and what picks the private methods -/
def cw : List Cond := [(Jvm.Cond.selects "BuildDrawer$Drawing" ({ cls := "BuildDrawer$Drawing", name := "begin", desc := "(JII)V" } : Jvm.MethodName) ({ cls := "BuildDrawer$Drawing", name := "begin", desc := "(JII)V" } : Jvm.MethodName)),
  (Jvm.Cond.selects "BuildDrawer$Drawing" ({ cls := "BuildDrawer$Drawing", name := "chance", desc := "(I)I" } : Jvm.MethodName) ({ cls := "BuildDrawer$Drawing", name := "chance", desc := "(I)I" } : Jvm.MethodName)),
  (Jvm.Cond.selects "BuildDrawer$Drawing" ({ cls := "BuildDrawer$Drawing", name := "next", desc := "()V" } : Jvm.MethodName) ({ cls := "BuildDrawer$Drawing", name := "next", desc := "()V" } : Jvm.MethodName)),
  (Jvm.Cond.selects "BuildDrawer$Drawing" ({ cls := "BuildDrawer$Drawing", name := "nextSort", desc := "()I" } : Jvm.MethodName) ({ cls := "BuildDrawer$Drawing", name := "nextSort", desc := "()I" } : Jvm.MethodName)),
  (Jvm.Cond.selects "BuildDrawer$Drawing" ({ cls := "BuildDrawer$Drawing", name := "nextB", desc := "()I" } : Jvm.MethodName) ({ cls := "BuildDrawer$Drawing", name := "nextB", desc := "()I" } : Jvm.MethodName)),
  (Jvm.Cond.selects "BuildDrawer$Drawing" ({ cls := "BuildDrawer$Drawing", name := "nextBOfStep", desc := "()I" } : Jvm.MethodName) ({ cls := "BuildDrawer$Drawing", name := "nextBOfStep", desc := "()I" } : Jvm.MethodName)),
  (Jvm.Cond.selects "BuildDrawer$Drawing" ({ cls := "BuildDrawer$Drawing", name := "nextNeed", desc := "()I" } : Jvm.MethodName) ({ cls := "BuildDrawer$Drawing", name := "nextNeed", desc := "()I" } : Jvm.MethodName)),
  (Jvm.Cond.selects "BuildDrawer" ({ cls := "BuildDrawer", name := "takeAllBack", desc := "()V" } : Jvm.MethodName) ({ cls := "BuildDrawer", name := "takeAllBack", desc := "()V" } : Jvm.MethodName)),
  (Jvm.Cond.selects "BuildDrawer" ({ cls := "BuildDrawer", name := "isPart", desc := "(I)Z" } : Jvm.MethodName) ({ cls := "BuildDrawer", name := "isPart", desc := "(I)Z" } : Jvm.MethodName)),
  (Jvm.Cond.selects "BuildDrawer" ({ cls := "BuildDrawer", name := "commonSet", desc := "()I" } : Jvm.MethodName) ({ cls := "BuildDrawer", name := "commonSet", desc := "()I" } : Jvm.MethodName)),
  (Jvm.Cond.selects "BuildDrawer" ({ cls := "BuildDrawer", name := "writeText", desc := "()V" } : Jvm.MethodName) ({ cls := "BuildDrawer", name := "writeText", desc := "()V" } : Jvm.MethodName)),
  (Jvm.Cond.selects "BuildDrawer" ({ cls := "BuildDrawer", name := "writePart", desc := "(I)V" } : Jvm.MethodName) ({ cls := "BuildDrawer", name := "writePart", desc := "(I)V" } : Jvm.MethodName)),
  (Jvm.Cond.selects "BuildDrawer" ({ cls := "BuildDrawer", name := "writeSign", desc := "(C)V" } : Jvm.MethodName) ({ cls := "BuildDrawer", name := "writeSign", desc := "(C)V" } : Jvm.MethodName)),
  (Jvm.Cond.selects "BuildDrawer" ({ cls := "BuildDrawer", name := "writeNumber", desc := "(I)V" } : Jvm.MethodName) ({ cls := "BuildDrawer", name := "writeNumber", desc := "(I)V" } : Jvm.MethodName)),
  (Jvm.Cond.selects "BuildDrawer" ({ cls := "BuildDrawer", name := "writeDigit", desc := "(I)V" } : Jvm.MethodName) ({ cls := "BuildDrawer", name := "writeDigit", desc := "(I)V" } : Jvm.MethodName)),
  (Jvm.Cond.selects "BuildDrawer" ({ cls := "BuildDrawer", name := "marksLeft", desc := "()I" } : Jvm.MethodName) ({ cls := "BuildDrawer", name := "marksLeft", desc := "()I" } : Jvm.MethodName)),
  (Jvm.Cond.selects "BuildDrawer" ({ cls := "BuildDrawer", name := "holdsOf", desc := "(I)Z" } : Jvm.MethodName) ({ cls := "BuildDrawer", name := "holdsOf", desc := "(I)Z" } : Jvm.MethodName)),
  (Jvm.Cond.selects "BuildDrawer" ({ cls := "BuildDrawer", name := "leaveOutAllThatCanGo", desc := "()V" } : Jvm.MethodName) ({ cls := "BuildDrawer", name := "leaveOutAllThatCanGo", desc := "()V" } : Jvm.MethodName)),
  (Jvm.Cond.selects "BuildDrawer" ({ cls := "BuildDrawer", name := "leaveOutFromLastToFirst", desc := "()Z" } : Jvm.MethodName) ({ cls := "BuildDrawer", name := "leaveOutFromLastToFirst", desc := "()Z" } : Jvm.MethodName)),
  (Jvm.Cond.selects "BuildDrawer" ({ cls := "BuildDrawer", name := "canGo", desc := "(I)Z" } : Jvm.MethodName) ({ cls := "BuildDrawer", name := "canGo", desc := "(I)Z" } : Jvm.MethodName)),
  (Jvm.Cond.selects "BuildDrawer" ({ cls := "BuildDrawer", name := "countLeft", desc := "()I" } : Jvm.MethodName) ({ cls := "BuildDrawer", name := "countLeft", desc := "()I" } : Jvm.MethodName)),
  (Jvm.Cond.selects "BuildDrawer$Drawing" ({ cls := "BuildDrawer$Drawing", name := "isAtTheLikeOf", desc := "(LBuildDrawer$Drawing;)Z" } : Jvm.MethodName) ({ cls := "BuildDrawer$Drawing", name := "isAtTheLikeOf", desc := "(LBuildDrawer$Drawing;)Z" } : Jvm.MethodName)),
  (Jvm.Cond.selects "BuildDrawerModel" ({ cls := "BuildDrawerModel", name := "fill", desc := "(JIII)V" } : Jvm.MethodName) ({ cls := "BuildDrawerModel", name := "fill", desc := "(JIII)V" } : Jvm.MethodName)),
  (Jvm.Cond.selects "BuildDrawerModel" ({ cls := "BuildDrawerModel", name := "chance", desc := "(I)I" } : Jvm.MethodName) ({ cls := "BuildDrawerModel", name := "chance", desc := "(I)I" } : Jvm.MethodName)),
  (Jvm.Cond.selects "BuildDrawerModel" ({ cls := "BuildDrawerModel", name := "drawB", desc := "(I)I" } : Jvm.MethodName) ({ cls := "BuildDrawerModel", name := "drawB", desc := "(I)I" } : Jvm.MethodName)),
  (Jvm.Cond.selects "BuildDrawerModel" ({ cls := "BuildDrawerModel", name := "holds", desc := "(I)Z" } : Jvm.MethodName) ({ cls := "BuildDrawerModel", name := "holds", desc := "(I)Z" } : Jvm.MethodName)),
  (Jvm.Cond.selects "BuildDrawerModel" ({ cls := "BuildDrawerModel", name := "canGo", desc := "(I)Z" } : Jvm.MethodName) ({ cls := "BuildDrawerModel", name := "canGo", desc := "(I)Z" } : Jvm.MethodName)),
  (Jvm.Cond.selects "BuildDrawerModel" ({ cls := "BuildDrawerModel", name := "count", desc := "()I" } : Jvm.MethodName) ({ cls := "BuildDrawerModel", name := "count", desc := "()I" } : Jvm.MethodName)),
  (Jvm.Cond.selects "BuildDrawerModel" ({ cls := "BuildDrawerModel", name := "shared", desc := "()J" } : Jvm.MethodName) ({ cls := "BuildDrawerModel", name := "shared", desc := "()J" } : Jvm.MethodName)),
  (Jvm.Cond.selects "BuildDrawerModel" ({ cls := "BuildDrawerModel", name := "say", desc := "(I)V" } : Jvm.MethodName) ({ cls := "BuildDrawerModel", name := "say", desc := "(I)V" } : Jvm.MethodName)),
  (Jvm.Cond.selects "BuildDrawerModel" ({ cls := "BuildDrawerModel", name := "sayNumber", desc := "(I)V" } : Jvm.MethodName) ({ cls := "BuildDrawerModel", name := "sayNumber", desc := "(I)V" } : Jvm.MethodName)),
  (Jvm.Cond.initialized "BuildDrawerLaw"),
  (Jvm.Cond.initialized "BuildDrawer"),
  (Jvm.Cond.initialized "BuildDrawer$Drawing"),
  (Jvm.Cond.initialized "BuildDrawerModel"),
  (Jvm.Cond.initialized "java/lang/Integer"),
  (Jvm.Cond.initialized "java/lang/String"),
  (Jvm.Cond.initialized "java/lang/StringLatin1"),
  (Jvm.Cond.initialized "jdk/internal/util/Preconditions"),
  (Jvm.Cond.classLink "BuildDrawerLaw" (7 : Nat) "BuildDrawer"),
  (Jvm.Cond.instantiable "BuildDrawer" (14 : Nat)),
  (Jvm.Cond.methodLink "BuildDrawerLaw" (15 : Nat) ({ cls := "BuildDrawer", name := "<init>", desc := "(J)V" } : Jvm.MethodName)),
  (Jvm.Cond.instanceMethod ({ cls := "BuildDrawer", name := "<init>", desc := "(J)V" } : Jvm.MethodName)),
  (Jvm.Cond.code ({ cls := "BuildDrawer", name := "<init>", desc := "(J)V" } : Jvm.MethodName) prog_1_method_1_code (3 : Nat) (Option.none : Option Jvm.ClassFile.FieldType)),
  (Jvm.Cond.methodLink "BuildDrawer" (3 : Nat) ({ cls := "java/lang/Object", name := "<init>", desc := "()V" } : Jvm.MethodName)),
  (Jvm.Cond.instanceMethod ({ cls := "java/lang/Object", name := "<init>", desc := "()V" } : Jvm.MethodName)),
  (Jvm.Cond.code ({ cls := "java/lang/Object", name := "<init>", desc := "()V" } : Jvm.MethodName) object_method_1_code (1 : Nat) (Option.none : Option Jvm.ClassFile.FieldType)),
  (Jvm.Cond.classLink "BuildDrawer" (9 : Nat) "BuildDrawer$Drawing"),
  (Jvm.Cond.instantiable "BuildDrawer$Drawing" (9 : Nat)),
  (Jvm.Cond.instanceMethod ({ cls := "BuildDrawer$Drawing", name := "<init>", desc := "()V" } : Jvm.MethodName)),
  (Jvm.Cond.code ({ cls := "BuildDrawer$Drawing", name := "<init>", desc := "()V" } : Jvm.MethodName) prog_2_method_1_code (1 : Nat) (Option.none : Option Jvm.ClassFile.FieldType)),
  (Jvm.Cond.methodLink "BuildDrawer$Drawing" (3 : Nat) ({ cls := "java/lang/Object", name := "<init>", desc := "()V" } : Jvm.MethodName)),
  (Jvm.Cond.fieldLink "BuildDrawer$Drawing" (9 : Nat) "BuildDrawer$Drawing" "word" "J"),
  (Jvm.Cond.fieldLink "BuildDrawer$Drawing" (15 : Nat) "BuildDrawer$Drawing" "sortOfKind" "I"),
  (Jvm.Cond.fieldLink "BuildDrawer$Drawing" (19 : Nat) "BuildDrawer$Drawing" "plantedBit" "I"),
  (Jvm.Cond.fieldLink "BuildDrawer$Drawing" (22 : Nat) "BuildDrawer$Drawing" "number" "I"),
  (Jvm.Cond.fieldLink "BuildDrawer$Drawing" (25 : Nat) "BuildDrawer$Drawing" "sort" "I"),
  (Jvm.Cond.fieldLink "BuildDrawer$Drawing" (28 : Nat) "BuildDrawer$Drawing" "a" "I"),
  (Jvm.Cond.fieldLink "BuildDrawer$Drawing" (31 : Nat) "BuildDrawer$Drawing" "b" "I"),
  (Jvm.Cond.fieldLink "BuildDrawer$Drawing" (34 : Nat) "BuildDrawer$Drawing" "need" "I"),
  (Jvm.Cond.fieldLink "BuildDrawer$Drawing" (37 : Nat) "BuildDrawer$Drawing" "mark" "I"),
  (Jvm.Cond.lays "BuildDrawer$Drawing" "BuildDrawer$Drawing" "word" "J"),
  (Jvm.Cond.lays "BuildDrawer$Drawing" "BuildDrawer$Drawing" "sortOfKind" "I"),
  (Jvm.Cond.lays "BuildDrawer$Drawing" "BuildDrawer$Drawing" "plantedBit" "I"),
  (Jvm.Cond.lays "BuildDrawer$Drawing" "BuildDrawer$Drawing" "number" "I"),
  (Jvm.Cond.lays "BuildDrawer$Drawing" "BuildDrawer$Drawing" "sort" "I"),
  (Jvm.Cond.lays "BuildDrawer$Drawing" "BuildDrawer$Drawing" "a" "I"),
  (Jvm.Cond.lays "BuildDrawer$Drawing" "BuildDrawer$Drawing" "b" "I"),
  (Jvm.Cond.lays "BuildDrawer$Drawing" "BuildDrawer$Drawing" "need" "I"),
  (Jvm.Cond.lays "BuildDrawer$Drawing" "BuildDrawer$Drawing" "mark" "I"),
  (Jvm.Cond.fieldLink "BuildDrawer" (57 : Nat) "BuildDrawer" "seed" "J"),
  (Jvm.Cond.fieldLink "BuildDrawer" (12 : Nat) "BuildDrawer" "mine" "LBuildDrawer$Drawing;"),
  (Jvm.Cond.fieldLink "BuildDrawer" (16 : Nat) "BuildDrawer" "others" "LBuildDrawer$Drawing;"),
  (Jvm.Cond.fieldLink "BuildDrawer" (19 : Nat) "BuildDrawer" "count" "I"),
  (Jvm.Cond.fieldLink "BuildDrawer" (23 : Nat) "BuildDrawer" "sorts" "[I"),
  (Jvm.Cond.fieldLink "BuildDrawer" (27 : Nat) "BuildDrawer" "as" "[I"),
  (Jvm.Cond.fieldLink "BuildDrawer" (30 : Nat) "BuildDrawer" "bs" "[I"),
  (Jvm.Cond.fieldLink "BuildDrawer" (33 : Nat) "BuildDrawer" "needs" "[I"),
  (Jvm.Cond.fieldLink "BuildDrawer" (36 : Nat) "BuildDrawer" "marks" "[I"),
  (Jvm.Cond.fieldLink "BuildDrawer" (39 : Nat) "BuildDrawer" "isLeft" "[Z"),
  (Jvm.Cond.fieldLink "BuildDrawer" (43 : Nat) "BuildDrawer" "verdictBits" "I"),
  (Jvm.Cond.fieldLink "BuildDrawer" (46 : Nat) "BuildDrawer" "verdictStays" "Z"),
  (Jvm.Cond.fieldLink "BuildDrawer" (50 : Nat) "BuildDrawer" "text" "[C"),
  (Jvm.Cond.fieldLink "BuildDrawer" (54 : Nat) "BuildDrawer" "textLength" "I"),
  (Jvm.Cond.laysFinal "BuildDrawer" "BuildDrawer" "seed" "J"),
  (Jvm.Cond.laysFinal "BuildDrawer" "BuildDrawer" "mine" "LBuildDrawer$Drawing;"),
  (Jvm.Cond.laysFinal "BuildDrawer" "BuildDrawer" "others" "LBuildDrawer$Drawing;"),
  (Jvm.Cond.lays "BuildDrawer" "BuildDrawer" "count" "I"),
  (Jvm.Cond.laysFinal "BuildDrawer" "BuildDrawer" "sorts" "[I"),
  (Jvm.Cond.laysFinal "BuildDrawer" "BuildDrawer" "as" "[I"),
  (Jvm.Cond.laysFinal "BuildDrawer" "BuildDrawer" "bs" "[I"),
  (Jvm.Cond.laysFinal "BuildDrawer" "BuildDrawer" "needs" "[I"),
  (Jvm.Cond.laysFinal "BuildDrawer" "BuildDrawer" "marks" "[I"),
  (Jvm.Cond.laysFinal "BuildDrawer" "BuildDrawer" "isLeft" "[Z"),
  (Jvm.Cond.lays "BuildDrawer" "BuildDrawer" "verdictBits" "I"),
  (Jvm.Cond.lays "BuildDrawer" "BuildDrawer" "verdictStays" "Z"),
  (Jvm.Cond.laysFinal "BuildDrawer" "BuildDrawer" "text" "[C"),
  (Jvm.Cond.lays "BuildDrawer" "BuildDrawer" "textLength" "I"),
  (Jvm.Cond.arrayClass Jvm.ClassFile.FieldType.int),
  (Jvm.Cond.arrayClass Jvm.ClassFile.FieldType.boolean),
  (Jvm.Cond.arrayClass Jvm.ClassFile.FieldType.char),
  (Jvm.Cond.methodLink "BuildDrawerLaw" (21 : Nat) ({ cls := "BuildDrawer", name := "draw", desc := "(II)I" } : Jvm.MethodName)),
  (Jvm.Cond.instanceMethod ({ cls := "BuildDrawer", name := "draw", desc := "(II)I" } : Jvm.MethodName)),
  (Jvm.Cond.selects "BuildDrawer" ({ cls := "BuildDrawer", name := "draw", desc := "(II)I" } : Jvm.MethodName) ({ cls := "BuildDrawer", name := "draw", desc := "(II)I" } : Jvm.MethodName)),
  (Jvm.Cond.code ({ cls := "BuildDrawer", name := "draw", desc := "(II)I" } : Jvm.MethodName) prog_1_method_2_code (4 : Nat) (Option.some Jvm.ClassFile.FieldType.int)),
  (Jvm.Cond.methodLink "BuildDrawer" (61 : Nat) ({ cls := "BuildDrawer", name := "canBeDrawn", desc := "(II)Z" } : Jvm.MethodName)),
  (Jvm.Cond.static ({ cls := "BuildDrawer", name := "canBeDrawn", desc := "(II)Z" } : Jvm.MethodName)),
  (Jvm.Cond.code ({ cls := "BuildDrawer", name := "canBeDrawn", desc := "(II)Z" } : Jvm.MethodName) prog_1_method_10_code (2 : Nat) (Option.some Jvm.ClassFile.FieldType.boolean)),
  (Jvm.Cond.instanceMethod ({ cls := "BuildDrawer$Drawing", name := "begin", desc := "(JII)V" } : Jvm.MethodName)),
  (Jvm.Cond.code ({ cls := "BuildDrawer$Drawing", name := "begin", desc := "(JII)V" } : Jvm.MethodName) prog_2_method_2_code (5 : Nat) (Option.none : Option Jvm.ClassFile.FieldType)),
  (Jvm.Cond.constantLong "BuildDrawer$Drawing" (40 : Nat) (2862933555777941757 : Int64)),
  (Jvm.Cond.methodLink "BuildDrawer$Drawing" (46 : Nat) ({ cls := "BuildDrawer$Drawing", name := "chance", desc := "(I)I" } : Jvm.MethodName)),
  (Jvm.Cond.instanceMethod ({ cls := "BuildDrawer$Drawing", name := "chance", desc := "(I)I" } : Jvm.MethodName)),
  (Jvm.Cond.code ({ cls := "BuildDrawer$Drawing", name := "chance", desc := "(I)I" } : Jvm.MethodName) prog_2_method_10_code (3 : Nat) (Option.some Jvm.ClassFile.FieldType.int)),
  (Jvm.Cond.constantLong "BuildDrawer$Drawing" (66 : Nat) (6364136223846793005 : Int64)),
  (Jvm.Cond.constantLong "BuildDrawer$Drawing" (68 : Nat) (1442695040888963407 : Int64)),
  (Jvm.Cond.methodLink "BuildDrawer$Drawing" (50 : Nat) ({ cls := "BuildDrawer$Drawing", name := "bitOrNone", desc := "(I)I" } : Jvm.MethodName)),
  (Jvm.Cond.static ({ cls := "BuildDrawer$Drawing", name := "bitOrNone", desc := "(I)I" } : Jvm.MethodName)),
  (Jvm.Cond.code ({ cls := "BuildDrawer$Drawing", name := "bitOrNone", desc := "(I)I" } : Jvm.MethodName) prog_2_method_5_code (1 : Nat) (Option.some Jvm.ClassFile.FieldType.int)),
  (Jvm.Cond.instanceMethod ({ cls := "BuildDrawer$Drawing", name := "next", desc := "()V" } : Jvm.MethodName)),
  (Jvm.Cond.code ({ cls := "BuildDrawer$Drawing", name := "next", desc := "()V" } : Jvm.MethodName) prog_2_method_3_code (1 : Nat) (Option.none : Option Jvm.ClassFile.FieldType)),
  (Jvm.Cond.methodLink "BuildDrawer$Drawing" (53 : Nat) ({ cls := "BuildDrawer$Drawing", name := "nextSort", desc := "()I" } : Jvm.MethodName)),
  (Jvm.Cond.instanceMethod ({ cls := "BuildDrawer$Drawing", name := "nextSort", desc := "()I" } : Jvm.MethodName)),
  (Jvm.Cond.code ({ cls := "BuildDrawer$Drawing", name := "nextSort", desc := "()I" } : Jvm.MethodName) prog_2_method_6_code (1 : Nat) (Option.some Jvm.ClassFile.FieldType.int)),
  (Jvm.Cond.methodLink "BuildDrawer$Drawing" (57 : Nat) ({ cls := "BuildDrawer$Drawing", name := "nextB", desc := "()I" } : Jvm.MethodName)),
  (Jvm.Cond.instanceMethod ({ cls := "BuildDrawer$Drawing", name := "nextB", desc := "()I" } : Jvm.MethodName)),
  (Jvm.Cond.code ({ cls := "BuildDrawer$Drawing", name := "nextB", desc := "()I" } : Jvm.MethodName) prog_2_method_7_code (1 : Nat) (Option.some Jvm.ClassFile.FieldType.int)),
  (Jvm.Cond.methodLink "BuildDrawer$Drawing" (63 : Nat) ({ cls := "BuildDrawer$Drawing", name := "nextBOfStep", desc := "()I" } : Jvm.MethodName)),
  (Jvm.Cond.instanceMethod ({ cls := "BuildDrawer$Drawing", name := "nextBOfStep", desc := "()I" } : Jvm.MethodName)),
  (Jvm.Cond.code ({ cls := "BuildDrawer$Drawing", name := "nextBOfStep", desc := "()I" } : Jvm.MethodName) prog_2_method_8_code (2 : Nat) (Option.some Jvm.ClassFile.FieldType.int)),
  (Jvm.Cond.methodLink "BuildDrawer$Drawing" (60 : Nat) ({ cls := "BuildDrawer$Drawing", name := "nextNeed", desc := "()I" } : Jvm.MethodName)),
  (Jvm.Cond.instanceMethod ({ cls := "BuildDrawer$Drawing", name := "nextNeed", desc := "()I" } : Jvm.MethodName)),
  (Jvm.Cond.code ({ cls := "BuildDrawer$Drawing", name := "nextNeed", desc := "()I" } : Jvm.MethodName) prog_2_method_9_code (2 : Nat) (Option.some Jvm.ClassFile.FieldType.int)),
  (Jvm.Cond.methodLink "BuildDrawer" (87 : Nat) ({ cls := "BuildDrawer", name := "takeAllBack", desc := "()V" } : Jvm.MethodName)),
  (Jvm.Cond.instanceMethod ({ cls := "BuildDrawer", name := "takeAllBack", desc := "()V" } : Jvm.MethodName)),
  (Jvm.Cond.code ({ cls := "BuildDrawer", name := "takeAllBack", desc := "()V" } : Jvm.MethodName) prog_1_method_12_code (2 : Nat) (Option.none : Option Jvm.ClassFile.FieldType)),
  (Jvm.Cond.methodLink "BuildDrawerLaw" (26 : Nat) ({ cls := "BuildDrawer", name := "part", desc := "(II)J" } : Jvm.MethodName)),
  (Jvm.Cond.instanceMethod ({ cls := "BuildDrawer", name := "part", desc := "(II)J" } : Jvm.MethodName)),
  (Jvm.Cond.selects "BuildDrawer" ({ cls := "BuildDrawer", name := "part", desc := "(II)J" } : Jvm.MethodName) ({ cls := "BuildDrawer", name := "part", desc := "(II)J" } : Jvm.MethodName)),
  (Jvm.Cond.code ({ cls := "BuildDrawer", name := "part", desc := "(II)J" } : Jvm.MethodName) prog_1_method_3_code (3 : Nat) (Option.some Jvm.ClassFile.FieldType.long)),
  (Jvm.Cond.methodLink "BuildDrawer" (90 : Nat) ({ cls := "BuildDrawer", name := "isPart", desc := "(I)Z" } : Jvm.MethodName)),
  (Jvm.Cond.instanceMethod ({ cls := "BuildDrawer", name := "isPart", desc := "(I)Z" } : Jvm.MethodName)),
  (Jvm.Cond.code ({ cls := "BuildDrawer", name := "isPart", desc := "(I)Z" } : Jvm.MethodName) prog_1_method_11_code (2 : Nat) (Option.some Jvm.ClassFile.FieldType.boolean)),
  (Jvm.Cond.constantLong "BuildDrawer" (94 : Nat) (-1 : Int64)),
  (Jvm.Cond.methodLink "BuildDrawer" (96 : Nat) ({ cls := "BuildDrawer", name := "commonSet", desc := "()I" } : Jvm.MethodName)),
  (Jvm.Cond.instanceMethod ({ cls := "BuildDrawer", name := "commonSet", desc := "()I" } : Jvm.MethodName)),
  (Jvm.Cond.code ({ cls := "BuildDrawer", name := "commonSet", desc := "()I" } : Jvm.MethodName) prog_1_method_15_code (3 : Nat) (Option.some Jvm.ClassFile.FieldType.int)),
  (Jvm.Cond.methodLink "BuildDrawer" (100 : Nat) ({ cls := "java/lang/Integer", name := "bitCount", desc := "(I)I" } : Jvm.MethodName)),
  (Jvm.Cond.static ({ cls := "java/lang/Integer", name := "bitCount", desc := "(I)I" } : Jvm.MethodName)),
  (Jvm.Cond.code ({ cls := "java/lang/Integer", name := "bitCount", desc := "(I)I" } : Jvm.MethodName) prog_5_method_49_code (1 : Nat) (Option.some Jvm.ClassFile.FieldType.int)),
  (Jvm.Cond.constant "java/lang/Integer" (265 : Nat) (1431655765 : Int32)),
  (Jvm.Cond.constant "java/lang/Integer" (266 : Nat) (858993459 : Int32)),
  (Jvm.Cond.constant "java/lang/Integer" (267 : Nat) (252645135 : Int32)),
  (Jvm.Cond.constantLong "BuildDrawer" (106 : Nat) (-2 : Int64)),
  (Jvm.Cond.methodLink "BuildDrawerLaw" (31 : Nat) ({ cls := "BuildDrawer", name := "letter", desc := "(I)I" } : Jvm.MethodName)),
  (Jvm.Cond.instanceMethod ({ cls := "BuildDrawer", name := "letter", desc := "(I)I" } : Jvm.MethodName)),
  (Jvm.Cond.selects "BuildDrawer" ({ cls := "BuildDrawer", name := "letter", desc := "(I)I" } : Jvm.MethodName) ({ cls := "BuildDrawer", name := "letter", desc := "(I)I" } : Jvm.MethodName)),
  (Jvm.Cond.code ({ cls := "BuildDrawer", name := "letter", desc := "(I)I" } : Jvm.MethodName) prog_1_method_4_code (2 : Nat) (Option.some Jvm.ClassFile.FieldType.int)),
  (Jvm.Cond.methodLink "BuildDrawer" (108 : Nat) ({ cls := "BuildDrawer", name := "writeText", desc := "()V" } : Jvm.MethodName)),
  (Jvm.Cond.instanceMethod ({ cls := "BuildDrawer", name := "writeText", desc := "()V" } : Jvm.MethodName)),
  (Jvm.Cond.code ({ cls := "BuildDrawer", name := "writeText", desc := "()V" } : Jvm.MethodName) prog_1_method_20_code (2 : Nat) (Option.none : Option Jvm.ClassFile.FieldType)),
  (Jvm.Cond.methodLink "BuildDrawer" (134 : Nat) ({ cls := "BuildDrawer", name := "writePart", desc := "(I)V" } : Jvm.MethodName)),
  (Jvm.Cond.instanceMethod ({ cls := "BuildDrawer", name := "writePart", desc := "(I)V" } : Jvm.MethodName)),
  (Jvm.Cond.code ({ cls := "BuildDrawer", name := "writePart", desc := "(I)V" } : Jvm.MethodName) prog_1_method_21_code (2 : Nat) (Option.none : Option Jvm.ClassFile.FieldType)),
  (Jvm.Cond.methodLink "BuildDrawer" (138 : Nat) ({ cls := "BuildDrawer", name := "letterOf", desc := "(I)C" } : Jvm.MethodName)),
  (Jvm.Cond.static ({ cls := "BuildDrawer", name := "letterOf", desc := "(I)C" } : Jvm.MethodName)),
  (Jvm.Cond.code ({ cls := "BuildDrawer", name := "letterOf", desc := "(I)C" } : Jvm.MethodName) prog_1_method_22_code (1 : Nat) (Option.some Jvm.ClassFile.FieldType.char)),
  (Jvm.Cond.methodLink "BuildDrawer" (151 : Nat) ({ cls := "java/lang/String", name := "length", desc := "()I" } : Jvm.MethodName)),
  (Jvm.Cond.instanceMethod ({ cls := "java/lang/String", name := "length", desc := "()I" } : Jvm.MethodName)),
  (Jvm.Cond.selects "java/lang/String" ({ cls := "java/lang/String", name := "length", desc := "()I" } : Jvm.MethodName) ({ cls := "java/lang/String", name := "length", desc := "()I" } : Jvm.MethodName)),
  (Jvm.Cond.code ({ cls := "java/lang/String", name := "length", desc := "()I" } : Jvm.MethodName) prog_6_method_54_code (1 : Nat) (Option.some Jvm.ClassFile.FieldType.int)),
  (Jvm.Cond.methodLink "java/lang/String" (335 : Nat) ({ cls := "java/lang/String", name := "coder", desc := "()B" } : Jvm.MethodName)),
  (Jvm.Cond.instanceMethod ({ cls := "java/lang/String", name := "coder", desc := "()B" } : Jvm.MethodName)),
  (Jvm.Cond.selects "java/lang/String" ({ cls := "java/lang/String", name := "coder", desc := "()B" } : Jvm.MethodName) ({ cls := "java/lang/String", name := "coder", desc := "()B" } : Jvm.MethodName)),
  (Jvm.Cond.code ({ cls := "java/lang/String", name := "coder", desc := "()B" } : Jvm.MethodName) prog_6_method_152_code (1 : Nat) (Option.some Jvm.ClassFile.FieldType.byte)),
  (Jvm.Cond.fieldLink "java/lang/String" (38 : Nat) "java/lang/String" "COMPACT_STRINGS" "Z"),
  (Jvm.Cond.methodLink "BuildDrawer" (156 : Nat) ({ cls := "java/lang/String", name := "charAt", desc := "(I)C" } : Jvm.MethodName)),
  (Jvm.Cond.instanceMethod ({ cls := "java/lang/String", name := "charAt", desc := "(I)C" } : Jvm.MethodName)),
  (Jvm.Cond.selects "java/lang/String" ({ cls := "java/lang/String", name := "charAt", desc := "(I)C" } : Jvm.MethodName) ({ cls := "java/lang/String", name := "charAt", desc := "(I)C" } : Jvm.MethodName)),
  (Jvm.Cond.code ({ cls := "java/lang/String", name := "charAt", desc := "(I)C" } : Jvm.MethodName) prog_6_method_56_code (2 : Nat) (Option.some Jvm.ClassFile.FieldType.char)),
  (Jvm.Cond.methodLink "java/lang/String" (492 : Nat) ({ cls := "java/lang/String", name := "isLatin1", desc := "()Z" } : Jvm.MethodName)),
  (Jvm.Cond.instanceMethod ({ cls := "java/lang/String", name := "isLatin1", desc := "()Z" } : Jvm.MethodName)),
  (Jvm.Cond.selects "java/lang/String" ({ cls := "java/lang/String", name := "isLatin1", desc := "()Z" } : Jvm.MethodName) ({ cls := "java/lang/String", name := "isLatin1", desc := "()Z" } : Jvm.MethodName)),
  (Jvm.Cond.code ({ cls := "java/lang/String", name := "isLatin1", desc := "()Z" } : Jvm.MethodName) prog_6_method_154_code (1 : Nat) (Option.some Jvm.ClassFile.FieldType.boolean)),
  (Jvm.Cond.methodLink "java/lang/String" (495 : Nat) ({ cls := "java/lang/StringLatin1", name := "charAt", desc := "([BI)C" } : Jvm.MethodName)),
  (Jvm.Cond.static ({ cls := "java/lang/StringLatin1", name := "charAt", desc := "([BI)C" } : Jvm.MethodName)),
  (Jvm.Cond.code ({ cls := "java/lang/StringLatin1", name := "charAt", desc := "([BI)C" } : Jvm.MethodName) prog_7_method_2_code (2 : Nat) (Option.some Jvm.ClassFile.FieldType.char)),
  (Jvm.Cond.methodLink "java/lang/StringLatin1" (9 : Nat) ({ cls := "java/lang/String", name := "checkIndex", desc := "(II)V" } : Jvm.MethodName)),
  (Jvm.Cond.static ({ cls := "java/lang/String", name := "checkIndex", desc := "(II)V" } : Jvm.MethodName)),
  (Jvm.Cond.code ({ cls := "java/lang/String", name := "checkIndex", desc := "(II)V" } : Jvm.MethodName) prog_6_method_155_code (2 : Nat) (Option.none : Option Jvm.ClassFile.FieldType)),
  (Jvm.Cond.fieldLink "java/lang/String" (1053 : Nat) "jdk/internal/util/Preconditions" "SIOOBE_FORMATTER" "Ljava/util/function/BiFunction;"),
  (Jvm.Cond.methodLink "java/lang/String" (1059 : Nat) ({ cls := "jdk/internal/util/Preconditions", name := "checkIndex", desc := "(IILjava/util/function/BiFunction;)I" } : Jvm.MethodName)),
  (Jvm.Cond.static ({ cls := "jdk/internal/util/Preconditions", name := "checkIndex", desc := "(IILjava/util/function/BiFunction;)I" } : Jvm.MethodName)),
  (Jvm.Cond.code ({ cls := "jdk/internal/util/Preconditions", name := "checkIndex", desc := "(IILjava/util/function/BiFunction;)I" } : Jvm.MethodName) prog_9_method_11_code (3 : Nat) (Option.some Jvm.ClassFile.FieldType.int)),
  (Jvm.Cond.methodLink "BuildDrawer" (142 : Nat) ({ cls := "BuildDrawer", name := "writeSign", desc := "(C)V" } : Jvm.MethodName)),
  (Jvm.Cond.instanceMethod ({ cls := "BuildDrawer", name := "writeSign", desc := "(C)V" } : Jvm.MethodName)),
  (Jvm.Cond.code ({ cls := "BuildDrawer", name := "writeSign", desc := "(C)V" } : Jvm.MethodName) prog_1_method_25_code (2 : Nat) (Option.none : Option Jvm.ClassFile.FieldType)),
  (Jvm.Cond.methodLink "BuildDrawer" (146 : Nat) ({ cls := "BuildDrawer", name := "writeNumber", desc := "(I)V" } : Jvm.MethodName)),
  (Jvm.Cond.instanceMethod ({ cls := "BuildDrawer", name := "writeNumber", desc := "(I)V" } : Jvm.MethodName)),
  (Jvm.Cond.code ({ cls := "BuildDrawer", name := "writeNumber", desc := "(I)V" } : Jvm.MethodName) prog_1_method_23_code (2 : Nat) (Option.none : Option Jvm.ClassFile.FieldType)),
  (Jvm.Cond.methodLink "BuildDrawer" (159 : Nat) ({ cls := "BuildDrawer", name := "writeDigit", desc := "(I)V" } : Jvm.MethodName)),
  (Jvm.Cond.instanceMethod ({ cls := "BuildDrawer", name := "writeDigit", desc := "(I)V" } : Jvm.MethodName)),
  (Jvm.Cond.code ({ cls := "BuildDrawer", name := "writeDigit", desc := "(I)V" } : Jvm.MethodName) prog_1_method_24_code (2 : Nat) (Option.none : Option Jvm.ClassFile.FieldType)),
  (Jvm.Cond.arrayClass Jvm.ClassFile.FieldType.byte),
  (Jvm.Cond.methodLink "BuildDrawerLaw" (36 : Nat) ({ cls := "BuildDrawer", name := "verdict", desc := "(IZ)V" } : Jvm.MethodName)),
  (Jvm.Cond.instanceMethod ({ cls := "BuildDrawer", name := "verdict", desc := "(IZ)V" } : Jvm.MethodName)),
  (Jvm.Cond.selects "BuildDrawer" ({ cls := "BuildDrawer", name := "verdict", desc := "(IZ)V" } : Jvm.MethodName) ({ cls := "BuildDrawer", name := "verdict", desc := "(IZ)V" } : Jvm.MethodName)),
  (Jvm.Cond.code ({ cls := "BuildDrawer", name := "verdict", desc := "(IZ)V" } : Jvm.MethodName) prog_1_method_5_code (3 : Nat) (Option.none : Option Jvm.ClassFile.FieldType)),
  (Jvm.Cond.methodLink "BuildDrawerLaw" (41 : Nat) ({ cls := "BuildDrawer", name := "shorter", desc := "()I" } : Jvm.MethodName)),
  (Jvm.Cond.instanceMethod ({ cls := "BuildDrawer", name := "shorter", desc := "()I" } : Jvm.MethodName)),
  (Jvm.Cond.selects "BuildDrawer" ({ cls := "BuildDrawer", name := "shorter", desc := "()I" } : Jvm.MethodName) ({ cls := "BuildDrawer", name := "shorter", desc := "()I" } : Jvm.MethodName)),
  (Jvm.Cond.code ({ cls := "BuildDrawer", name := "shorter", desc := "()I" } : Jvm.MethodName) prog_1_method_6_code (1 : Nat) (Option.some Jvm.ClassFile.FieldType.int)),
  (Jvm.Cond.methodLink "BuildDrawer" (111 : Nat) ({ cls := "BuildDrawer", name := "marksLeft", desc := "()I" } : Jvm.MethodName)),
  (Jvm.Cond.instanceMethod ({ cls := "BuildDrawer", name := "marksLeft", desc := "()I" } : Jvm.MethodName)),
  (Jvm.Cond.code ({ cls := "BuildDrawer", name := "marksLeft", desc := "()I" } : Jvm.MethodName) prog_1_method_14_code (3 : Nat) (Option.some Jvm.ClassFile.FieldType.int)),
  (Jvm.Cond.methodLink "BuildDrawer" (114 : Nat) ({ cls := "BuildDrawer", name := "holdsOf", desc := "(I)Z" } : Jvm.MethodName)),
  (Jvm.Cond.instanceMethod ({ cls := "BuildDrawer", name := "holdsOf", desc := "(I)Z" } : Jvm.MethodName)),
  (Jvm.Cond.code ({ cls := "BuildDrawer", name := "holdsOf", desc := "(I)Z" } : Jvm.MethodName) prog_1_method_16_code (3 : Nat) (Option.some Jvm.ClassFile.FieldType.boolean)),
  (Jvm.Cond.methodLink "BuildDrawer" (117 : Nat) ({ cls := "BuildDrawer", name := "leaveOutAllThatCanGo", desc := "()V" } : Jvm.MethodName)),
  (Jvm.Cond.instanceMethod ({ cls := "BuildDrawer", name := "leaveOutAllThatCanGo", desc := "()V" } : Jvm.MethodName)),
  (Jvm.Cond.code ({ cls := "BuildDrawer", name := "leaveOutAllThatCanGo", desc := "()V" } : Jvm.MethodName) prog_1_method_18_code (3 : Nat) (Option.none : Option Jvm.ClassFile.FieldType)),
  (Jvm.Cond.methodLink "BuildDrawer" (130 : Nat) ({ cls := "BuildDrawer", name := "leaveOutFromLastToFirst", desc := "()Z" } : Jvm.MethodName)),
  (Jvm.Cond.instanceMethod ({ cls := "BuildDrawer", name := "leaveOutFromLastToFirst", desc := "()Z" } : Jvm.MethodName)),
  (Jvm.Cond.code ({ cls := "BuildDrawer", name := "leaveOutFromLastToFirst", desc := "()Z" } : Jvm.MethodName) prog_1_method_19_code (3 : Nat) (Option.some Jvm.ClassFile.FieldType.boolean)),
  (Jvm.Cond.methodLink "BuildDrawer" (123 : Nat) ({ cls := "BuildDrawer", name := "canGo", desc := "(I)Z" } : Jvm.MethodName)),
  (Jvm.Cond.instanceMethod ({ cls := "BuildDrawer", name := "canGo", desc := "(I)Z" } : Jvm.MethodName)),
  (Jvm.Cond.code ({ cls := "BuildDrawer", name := "canGo", desc := "(I)Z" } : Jvm.MethodName) prog_1_method_17_code (4 : Nat) (Option.some Jvm.ClassFile.FieldType.boolean)),
  (Jvm.Cond.methodLink "BuildDrawer" (120 : Nat) ({ cls := "BuildDrawer", name := "countLeft", desc := "()I" } : Jvm.MethodName)),
  (Jvm.Cond.instanceMethod ({ cls := "BuildDrawer", name := "countLeft", desc := "()I" } : Jvm.MethodName)),
  (Jvm.Cond.code ({ cls := "BuildDrawer", name := "countLeft", desc := "()I" } : Jvm.MethodName) prog_1_method_13_code (3 : Nat) (Option.some Jvm.ClassFile.FieldType.int)),
  (Jvm.Cond.methodLink "BuildDrawerLaw" (46 : Nat) ({ cls := "BuildDrawer", name := "left", desc := "(I)I" } : Jvm.MethodName)),
  (Jvm.Cond.instanceMethod ({ cls := "BuildDrawer", name := "left", desc := "(I)I" } : Jvm.MethodName)),
  (Jvm.Cond.selects "BuildDrawer" ({ cls := "BuildDrawer", name := "left", desc := "(I)I" } : Jvm.MethodName) ({ cls := "BuildDrawer", name := "left", desc := "(I)I" } : Jvm.MethodName)),
  (Jvm.Cond.code ({ cls := "BuildDrawer", name := "left", desc := "(I)I" } : Jvm.MethodName) prog_1_method_7_code (4 : Nat) (Option.some Jvm.ClassFile.FieldType.int)),
  (Jvm.Cond.methodLink "BuildDrawerLaw" (50 : Nat) ({ cls := "BuildDrawer", name := "minimal", desc := "()Z" } : Jvm.MethodName)),
  (Jvm.Cond.instanceMethod ({ cls := "BuildDrawer", name := "minimal", desc := "()Z" } : Jvm.MethodName)),
  (Jvm.Cond.selects "BuildDrawer" ({ cls := "BuildDrawer", name := "minimal", desc := "()Z" } : Jvm.MethodName) ({ cls := "BuildDrawer", name := "minimal", desc := "()Z" } : Jvm.MethodName)),
  (Jvm.Cond.code ({ cls := "BuildDrawer", name := "minimal", desc := "()Z" } : Jvm.MethodName) prog_1_method_8_code (2 : Nat) (Option.some Jvm.ClassFile.FieldType.boolean)),
  (Jvm.Cond.methodLink "BuildDrawerLaw" (57 : Nat) ({ cls := "BuildDrawer", name := "same", desc := "(JII)Z" } : Jvm.MethodName)),
  (Jvm.Cond.instanceMethod ({ cls := "BuildDrawer", name := "same", desc := "(JII)Z" } : Jvm.MethodName)),
  (Jvm.Cond.selects "BuildDrawer" ({ cls := "BuildDrawer", name := "same", desc := "(JII)Z" } : Jvm.MethodName) ({ cls := "BuildDrawer", name := "same", desc := "(JII)Z" } : Jvm.MethodName)),
  (Jvm.Cond.code ({ cls := "BuildDrawer", name := "same", desc := "(JII)Z" } : Jvm.MethodName) prog_1_method_9_code (6 : Nat) (Option.some Jvm.ClassFile.FieldType.boolean)),
  (Jvm.Cond.instanceMethod ({ cls := "BuildDrawer$Drawing", name := "isAtTheLikeOf", desc := "(LBuildDrawer$Drawing;)Z" } : Jvm.MethodName)),
  (Jvm.Cond.code ({ cls := "BuildDrawer$Drawing", name := "isAtTheLikeOf", desc := "(LBuildDrawer$Drawing;)Z" } : Jvm.MethodName) prog_2_method_4_code (2 : Nat) (Option.some Jvm.ClassFile.FieldType.boolean)),
  (Jvm.Cond.methodLink "BuildDrawerLaw" (9 : Nat) ({ cls := "BuildDrawerLaw", name := "cell", desc := "([II)I" } : Jvm.MethodName)),
  (Jvm.Cond.static ({ cls := "BuildDrawerLaw", name := "cell", desc := "([II)I" } : Jvm.MethodName)),
  (Jvm.Cond.code ({ cls := "BuildDrawerLaw", name := "cell", desc := "([II)I" } : Jvm.MethodName) method_2_code (2 : Nat) (Option.some Jvm.ClassFile.FieldType.int)),
  (Jvm.Cond.classLink "BuildDrawerLaw" (18 : Nat) "BuildDrawerModel"),
  (Jvm.Cond.instantiable "BuildDrawerModel" (16 : Nat)),
  (Jvm.Cond.methodLink "BuildDrawerLaw" (20 : Nat) ({ cls := "BuildDrawerModel", name := "<init>", desc := "(J)V" } : Jvm.MethodName)),
  (Jvm.Cond.instanceMethod ({ cls := "BuildDrawerModel", name := "<init>", desc := "(J)V" } : Jvm.MethodName)),
  (Jvm.Cond.code ({ cls := "BuildDrawerModel", name := "<init>", desc := "(J)V" } : Jvm.MethodName) prog_4_method_1_code (3 : Nat) (Option.none : Option Jvm.ClassFile.FieldType)),
  (Jvm.Cond.methodLink "BuildDrawerModel" (1 : Nat) ({ cls := "java/lang/Object", name := "<init>", desc := "()V" } : Jvm.MethodName)),
  (Jvm.Cond.fieldLink "BuildDrawerModel" (37 : Nat) "BuildDrawerModel" "code" "I"),
  (Jvm.Cond.fieldLink "BuildDrawerModel" (33 : Nat) "BuildDrawerModel" "seed" "J"),
  (Jvm.Cond.fieldLink "BuildDrawerModel" (41 : Nat) "BuildDrawerModel" "word" "J"),
  (Jvm.Cond.fieldLink "BuildDrawerModel" (71 : Nat) "BuildDrawerModel" "parts" "I"),
  (Jvm.Cond.fieldLink "BuildDrawerModel" (74 : Nat) "BuildDrawerModel" "bits" "I"),
  (Jvm.Cond.fieldLink "BuildDrawerModel" (52 : Nat) "BuildDrawerModel" "planted" "I"),
  (Jvm.Cond.fieldLink "BuildDrawerModel" (7 : Nat) "BuildDrawerModel" "stays" "Z"),
  (Jvm.Cond.fieldLink "BuildDrawerModel" (13 : Nat) "BuildDrawerModel" "sort" "[I"),
  (Jvm.Cond.fieldLink "BuildDrawerModel" (17 : Nat) "BuildDrawerModel" "a" "[I"),
  (Jvm.Cond.fieldLink "BuildDrawerModel" (20 : Nat) "BuildDrawerModel" "b" "[I"),
  (Jvm.Cond.fieldLink "BuildDrawerModel" (23 : Nat) "BuildDrawerModel" "need" "[I"),
  (Jvm.Cond.fieldLink "BuildDrawerModel" (26 : Nat) "BuildDrawerModel" "mark" "[I"),
  (Jvm.Cond.fieldLink "BuildDrawerModel" (29 : Nat) "BuildDrawerModel" "is" "[Z"),
  (Jvm.Cond.fieldLink "BuildDrawerModel" (99 : Nat) "BuildDrawerModel" "wanted" "I"),
  (Jvm.Cond.fieldLink "BuildDrawerModel" (102 : Nat) "BuildDrawerModel" "found" "I"),
  (Jvm.Cond.fieldLink "BuildDrawerModel" (96 : Nat) "BuildDrawerModel" "seen" "I"),
  (Jvm.Cond.lays "BuildDrawerModel" "BuildDrawerModel" "code" "I"),
  (Jvm.Cond.laysFinal "BuildDrawerModel" "BuildDrawerModel" "seed" "J"),
  (Jvm.Cond.lays "BuildDrawerModel" "BuildDrawerModel" "word" "J"),
  (Jvm.Cond.lays "BuildDrawerModel" "BuildDrawerModel" "parts" "I"),
  (Jvm.Cond.lays "BuildDrawerModel" "BuildDrawerModel" "bits" "I"),
  (Jvm.Cond.lays "BuildDrawerModel" "BuildDrawerModel" "planted" "I"),
  (Jvm.Cond.lays "BuildDrawerModel" "BuildDrawerModel" "stays" "Z"),
  (Jvm.Cond.laysFinal "BuildDrawerModel" "BuildDrawerModel" "sort" "[I"),
  (Jvm.Cond.laysFinal "BuildDrawerModel" "BuildDrawerModel" "a" "[I"),
  (Jvm.Cond.laysFinal "BuildDrawerModel" "BuildDrawerModel" "b" "[I"),
  (Jvm.Cond.laysFinal "BuildDrawerModel" "BuildDrawerModel" "need" "[I"),
  (Jvm.Cond.laysFinal "BuildDrawerModel" "BuildDrawerModel" "mark" "[I"),
  (Jvm.Cond.laysFinal "BuildDrawerModel" "BuildDrawerModel" "is" "[Z"),
  (Jvm.Cond.lays "BuildDrawerModel" "BuildDrawerModel" "wanted" "I"),
  (Jvm.Cond.lays "BuildDrawerModel" "BuildDrawerModel" "found" "I"),
  (Jvm.Cond.lays "BuildDrawerModel" "BuildDrawerModel" "seen" "I"),
  (Jvm.Cond.methodLink "BuildDrawerLaw" (25 : Nat) ({ cls := "BuildDrawerModel", name := "draw", desc := "(II)I" } : Jvm.MethodName)),
  (Jvm.Cond.instanceMethod ({ cls := "BuildDrawerModel", name := "draw", desc := "(II)I" } : Jvm.MethodName)),
  (Jvm.Cond.selects "BuildDrawerModel" ({ cls := "BuildDrawerModel", name := "draw", desc := "(II)I" } : Jvm.MethodName) ({ cls := "BuildDrawerModel", name := "draw", desc := "(II)I" } : Jvm.MethodName)),
  (Jvm.Cond.code ({ cls := "BuildDrawerModel", name := "draw", desc := "(II)I" } : Jvm.MethodName) prog_4_method_8_code (4 : Nat) (Option.some Jvm.ClassFile.FieldType.int)),
  (Jvm.Cond.methodLink "BuildDrawerModel" (63 : Nat) ({ cls := "BuildDrawerModel", name := "isSuch", desc := "(II)Z" } : Jvm.MethodName)),
  (Jvm.Cond.static ({ cls := "BuildDrawerModel", name := "isSuch", desc := "(II)Z" } : Jvm.MethodName)),
  (Jvm.Cond.code ({ cls := "BuildDrawerModel", name := "isSuch", desc := "(II)Z" } : Jvm.MethodName) prog_4_method_7_code (2 : Nat) (Option.some Jvm.ClassFile.FieldType.boolean)),
  (Jvm.Cond.methodLink "BuildDrawerModel" (67 : Nat) ({ cls := "BuildDrawerModel", name := "fill", desc := "(JIII)V" } : Jvm.MethodName)),
  (Jvm.Cond.instanceMethod ({ cls := "BuildDrawerModel", name := "fill", desc := "(JIII)V" } : Jvm.MethodName)),
  (Jvm.Cond.code ({ cls := "BuildDrawerModel", name := "fill", desc := "(JIII)V" } : Jvm.MethodName) prog_4_method_6_code (9 : Nat) (Option.none : Option Jvm.ClassFile.FieldType)),
  (Jvm.Cond.constantLong "BuildDrawerModel" (55 : Nat) (2862933555777941757 : Int64)),
  (Jvm.Cond.methodLink "BuildDrawerModel" (48 : Nat) ({ cls := "BuildDrawerModel", name := "chance", desc := "(I)I" } : Jvm.MethodName)),
  (Jvm.Cond.instanceMethod ({ cls := "BuildDrawerModel", name := "chance", desc := "(I)I" } : Jvm.MethodName)),
  (Jvm.Cond.code ({ cls := "BuildDrawerModel", name := "chance", desc := "(I)I" } : Jvm.MethodName) prog_4_method_3_code (2 : Nat) (Option.some Jvm.ClassFile.FieldType.int)),
  (Jvm.Cond.constantLong "BuildDrawerModel" (44 : Nat) (6364136223846793005 : Int64)),
  (Jvm.Cond.constantLong "BuildDrawerModel" (46 : Nat) (1442695040888963407 : Int64)),
  (Jvm.Cond.methodLink "BuildDrawerModel" (57 : Nat) ({ cls := "BuildDrawerModel", name := "sortOf", desc := "(I)I" } : Jvm.MethodName)),
  (Jvm.Cond.static ({ cls := "BuildDrawerModel", name := "sortOf", desc := "(I)I" } : Jvm.MethodName)),
  (Jvm.Cond.code ({ cls := "BuildDrawerModel", name := "sortOf", desc := "(I)I" } : Jvm.MethodName) prog_4_method_4_code (1 : Nat) (Option.some Jvm.ClassFile.FieldType.int)),
  (Jvm.Cond.methodLink "BuildDrawerModel" (60 : Nat) ({ cls := "BuildDrawerModel", name := "drawB", desc := "(I)I" } : Jvm.MethodName)),
  (Jvm.Cond.instanceMethod ({ cls := "BuildDrawerModel", name := "drawB", desc := "(I)I" } : Jvm.MethodName)),
  (Jvm.Cond.code ({ cls := "BuildDrawerModel", name := "drawB", desc := "(I)I" } : Jvm.MethodName) prog_4_method_5_code (3 : Nat) (Option.some Jvm.ClassFile.FieldType.int)),
  (Jvm.Cond.methodLink "BuildDrawerLaw" (61 : Nat) ({ cls := "BuildDrawerModel", name := "same", desc := "(JII)Z" } : Jvm.MethodName)),
  (Jvm.Cond.instanceMethod ({ cls := "BuildDrawerModel", name := "same", desc := "(JII)Z" } : Jvm.MethodName)),
  (Jvm.Cond.selects "BuildDrawerModel" ({ cls := "BuildDrawerModel", name := "same", desc := "(JII)Z" } : Jvm.MethodName) ({ cls := "BuildDrawerModel", name := "same", desc := "(JII)Z" } : Jvm.MethodName)),
  (Jvm.Cond.code ({ cls := "BuildDrawerModel", name := "same", desc := "(JII)Z" } : Jvm.MethodName) prog_4_method_9_code (12 : Nat) (Option.some Jvm.ClassFile.FieldType.boolean)),
  (Jvm.Cond.methodLink "BuildDrawerLaw" (40 : Nat) ({ cls := "BuildDrawerModel", name := "verdict", desc := "(IZ)V" } : Jvm.MethodName)),
  (Jvm.Cond.instanceMethod ({ cls := "BuildDrawerModel", name := "verdict", desc := "(IZ)V" } : Jvm.MethodName)),
  (Jvm.Cond.selects "BuildDrawerModel" ({ cls := "BuildDrawerModel", name := "verdict", desc := "(IZ)V" } : Jvm.MethodName) ({ cls := "BuildDrawerModel", name := "verdict", desc := "(IZ)V" } : Jvm.MethodName)),
  (Jvm.Cond.code ({ cls := "BuildDrawerModel", name := "verdict", desc := "(IZ)V" } : Jvm.MethodName) prog_4_method_10_code (3 : Nat) (Option.none : Option Jvm.ClassFile.FieldType)),
  (Jvm.Cond.methodLink "BuildDrawerLaw" (45 : Nat) ({ cls := "BuildDrawerModel", name := "shorter", desc := "()I" } : Jvm.MethodName)),
  (Jvm.Cond.instanceMethod ({ cls := "BuildDrawerModel", name := "shorter", desc := "()I" } : Jvm.MethodName)),
  (Jvm.Cond.selects "BuildDrawerModel" ({ cls := "BuildDrawerModel", name := "shorter", desc := "()I" } : Jvm.MethodName) ({ cls := "BuildDrawerModel", name := "shorter", desc := "()I" } : Jvm.MethodName)),
  (Jvm.Cond.code ({ cls := "BuildDrawerModel", name := "shorter", desc := "()I" } : Jvm.MethodName) prog_4_method_14_code (3 : Nat) (Option.some Jvm.ClassFile.FieldType.int)),
  (Jvm.Cond.methodLink "BuildDrawerModel" (77 : Nat) ({ cls := "BuildDrawerModel", name := "holds", desc := "(I)Z" } : Jvm.MethodName)),
  (Jvm.Cond.instanceMethod ({ cls := "BuildDrawerModel", name := "holds", desc := "(I)Z" } : Jvm.MethodName)),
  (Jvm.Cond.code ({ cls := "BuildDrawerModel", name := "holds", desc := "(I)Z" } : Jvm.MethodName) prog_4_method_11_code (4 : Nat) (Option.some Jvm.ClassFile.FieldType.boolean)),
  (Jvm.Cond.methodLink "BuildDrawerModel" (81 : Nat) ({ cls := "BuildDrawerModel", name := "canGo", desc := "(I)Z" } : Jvm.MethodName)),
  (Jvm.Cond.instanceMethod ({ cls := "BuildDrawerModel", name := "canGo", desc := "(I)Z" } : Jvm.MethodName)),
  (Jvm.Cond.code ({ cls := "BuildDrawerModel", name := "canGo", desc := "(I)Z" } : Jvm.MethodName) prog_4_method_12_code (3 : Nat) (Option.some Jvm.ClassFile.FieldType.boolean)),
  (Jvm.Cond.methodLink "BuildDrawerModel" (84 : Nat) ({ cls := "BuildDrawerModel", name := "count", desc := "()I" } : Jvm.MethodName)),
  (Jvm.Cond.instanceMethod ({ cls := "BuildDrawerModel", name := "count", desc := "()I" } : Jvm.MethodName)),
  (Jvm.Cond.code ({ cls := "BuildDrawerModel", name := "count", desc := "()I" } : Jvm.MethodName) prog_4_method_13_code (3 : Nat) (Option.some Jvm.ClassFile.FieldType.int)),
  (Jvm.Cond.methodLink "BuildDrawerLaw" (54 : Nat) ({ cls := "BuildDrawerModel", name := "minimal", desc := "()Z" } : Jvm.MethodName)),
  (Jvm.Cond.instanceMethod ({ cls := "BuildDrawerModel", name := "minimal", desc := "()Z" } : Jvm.MethodName)),
  (Jvm.Cond.selects "BuildDrawerModel" ({ cls := "BuildDrawerModel", name := "minimal", desc := "()Z" } : Jvm.MethodName) ({ cls := "BuildDrawerModel", name := "minimal", desc := "()Z" } : Jvm.MethodName)),
  (Jvm.Cond.code ({ cls := "BuildDrawerModel", name := "minimal", desc := "()Z" } : Jvm.MethodName) prog_4_method_15_code (3 : Nat) (Option.some Jvm.ClassFile.FieldType.boolean)),
  (Jvm.Cond.methodLink "BuildDrawerLaw" (49 : Nat) ({ cls := "BuildDrawerModel", name := "left", desc := "(I)I" } : Jvm.MethodName)),
  (Jvm.Cond.instanceMethod ({ cls := "BuildDrawerModel", name := "left", desc := "(I)I" } : Jvm.MethodName)),
  (Jvm.Cond.selects "BuildDrawerModel" ({ cls := "BuildDrawerModel", name := "left", desc := "(I)I" } : Jvm.MethodName) ({ cls := "BuildDrawerModel", name := "left", desc := "(I)I" } : Jvm.MethodName)),
  (Jvm.Cond.code ({ cls := "BuildDrawerModel", name := "left", desc := "(I)I" } : Jvm.MethodName) prog_4_method_16_code (4 : Nat) (Option.some Jvm.ClassFile.FieldType.int)),
  (Jvm.Cond.methodLink "BuildDrawerLaw" (30 : Nat) ({ cls := "BuildDrawerModel", name := "part", desc := "(II)J" } : Jvm.MethodName)),
  (Jvm.Cond.instanceMethod ({ cls := "BuildDrawerModel", name := "part", desc := "(II)J" } : Jvm.MethodName)),
  (Jvm.Cond.selects "BuildDrawerModel" ({ cls := "BuildDrawerModel", name := "part", desc := "(II)J" } : Jvm.MethodName) ({ cls := "BuildDrawerModel", name := "part", desc := "(II)J" } : Jvm.MethodName)),
  (Jvm.Cond.code ({ cls := "BuildDrawerModel", name := "part", desc := "(II)J" } : Jvm.MethodName) prog_4_method_17_code (3 : Nat) (Option.some Jvm.ClassFile.FieldType.long)),
  (Jvm.Cond.constantLong "BuildDrawerModel" (88 : Nat) (-1 : Int64)),
  (Jvm.Cond.methodLink "BuildDrawerModel" (90 : Nat) ({ cls := "BuildDrawerModel", name := "shared", desc := "()J" } : Jvm.MethodName)),
  (Jvm.Cond.instanceMethod ({ cls := "BuildDrawerModel", name := "shared", desc := "()J" } : Jvm.MethodName)),
  (Jvm.Cond.code ({ cls := "BuildDrawerModel", name := "shared", desc := "()J" } : Jvm.MethodName) prog_4_method_18_code (4 : Nat) (Option.some Jvm.ClassFile.FieldType.long)),
  (Jvm.Cond.constantLong "BuildDrawerModel" (94 : Nat) (-2 : Int64)),
  (Jvm.Cond.methodLink "BuildDrawerLaw" (35 : Nat) ({ cls := "BuildDrawerModel", name := "letter", desc := "(I)I" } : Jvm.MethodName)),
  (Jvm.Cond.instanceMethod ({ cls := "BuildDrawerModel", name := "letter", desc := "(I)I" } : Jvm.MethodName)),
  (Jvm.Cond.selects "BuildDrawerModel" ({ cls := "BuildDrawerModel", name := "letter", desc := "(I)I" } : Jvm.MethodName) ({ cls := "BuildDrawerModel", name := "letter", desc := "(I)I" } : Jvm.MethodName)),
  (Jvm.Cond.code ({ cls := "BuildDrawerModel", name := "letter", desc := "(I)I" } : Jvm.MethodName) prog_4_method_22_code (3 : Nat) (Option.some Jvm.ClassFile.FieldType.int)),
  (Jvm.Cond.methodLink "BuildDrawerModel" (109 : Nat) ({ cls := "BuildDrawerModel", name := "letterOf", desc := "(I)I" } : Jvm.MethodName)),
  (Jvm.Cond.static ({ cls := "BuildDrawerModel", name := "letterOf", desc := "(I)I" } : Jvm.MethodName)),
  (Jvm.Cond.code ({ cls := "BuildDrawerModel", name := "letterOf", desc := "(I)I" } : Jvm.MethodName) prog_4_method_21_code (1 : Nat) (Option.some Jvm.ClassFile.FieldType.int)),
  (Jvm.Cond.methodLink "BuildDrawerModel" (105 : Nat) ({ cls := "BuildDrawerModel", name := "say", desc := "(I)V" } : Jvm.MethodName)),
  (Jvm.Cond.instanceMethod ({ cls := "BuildDrawerModel", name := "say", desc := "(I)V" } : Jvm.MethodName)),
  (Jvm.Cond.code ({ cls := "BuildDrawerModel", name := "say", desc := "(I)V" } : Jvm.MethodName) prog_4_method_19_code (2 : Nat) (Option.none : Option Jvm.ClassFile.FieldType)),
  (Jvm.Cond.methodLink "BuildDrawerModel" (112 : Nat) ({ cls := "BuildDrawerModel", name := "sayNumber", desc := "(I)V" } : Jvm.MethodName)),
  (Jvm.Cond.instanceMethod ({ cls := "BuildDrawerModel", name := "sayNumber", desc := "(I)V" } : Jvm.MethodName)),
  (Jvm.Cond.code ({ cls := "BuildDrawerModel", name := "sayNumber", desc := "(I)V" } : Jvm.MethodName) prog_4_method_20_code (3 : Nat) (Option.none : Option Jvm.ClassFile.FieldType)),
  (Jvm.Cond.constantLong "BuildDrawerLaw" (55 : Nat) (4294967295 : Int64)),
  (Jvm.Cond.fieldLink "java/lang/String" (9 : Nat) "java/lang/String" "value" "[B"),
  (Jvm.Cond.fieldLink "java/lang/String" (15 : Nat) "java/lang/String" "coder" "B")]
def cw_ps : List Nat := [0, 1, 2, 3, 4, 5, 6, 7, 8, 9, 10, 11, 12, 13, 14, 15, 16, 17, 18, 19, 20, 21, 22, 23, 24, 25, 26, 27, 28, 29, 30, 31, 32, 33, 34, 35, 36, 37, 38, 40, 41, 42, 43, 44, 45, 46, 47, 48, 49, 51, 52, 53, 54, 55, 56, 57, 58, 60, 62, 64, 66, 68, 70, 72, 74, 76, 78, 80, 82, 84, 87, 88, 89, 90, 91, 92, 93, 94, 95, 96, 97, 98, 99, 100, 101, 103, 105, 107, 109, 111, 113, 115, 117, 119, 121, 123, 125, 127, 130, 131, 132, 133, 134, 135, 136, 137, 138, 139, 142, 143, 144, 147, 149, 150, 151, 152, 153, 154, 155, 158, 159, 160, 162, 163, 164, 166, 167, 168, 170, 171, 172, 174, 175, 176, 178, 179, 180, 181, 182, 183, 184, 186, 187, 188, 189, 191, 192, 193, 194, 195, 196, 197, 198, 199, 200, 201, 202, 203, 204, 206, 207, 208, 210, 211, 212, 213, 214, 216, 217, 218, 219, 220, 221, 222, 223, 224, 226, 227, 228, 229, 230, 231, 232, 233, 234, 235, 236, 237, 238, 239, 240, 242, 243, 244, 264, 266, 267, 268, 270, 271, 272, 274, 275, 276, 277, 278, 279, 280, 281, 282, 283, 284, 285, 287, 288, 289, 291, 292, 293, 295, 296, 297, 299, 300, 301, 303, 304, 305, 307, 308, 309, 310, 311, 312, 313, 314, 315, 316, 317, 318, 319, 320, 323, 324, 325, 326, 327, 328, 329, 330, 331, 332, 333, 334, 335, 336, 337, 338, 339, 340, 341, 342, 343, 344, 345, 346, 347, 348, 349, 350, 352, 354, 356, 358, 360, 362, 364, 366, 368, 370, 372, 374, 376, 378, 380, 383, 384, 385, 386, 387, 388, 389, 390, 392, 393, 394, 395, 397, 398, 399, 400, 401, 402, 403, 404, 406, 407, 408, 409, 410, 411, 412, 413, 414, 415, 416, 417, 418, 419, 420, 422, 423, 424, 426, 427, 428, 430, 431, 432, 433, 434, 435, 436, 437, 438, 439, 440, 441, 442, 443, 444, 445, 447, 448, 449, 450, 451, 452, 453, 454, 455, 456, 457, 459, 460, 461, 463, 464, 465, 466, 467]
set_option maxRecDepth 100000 in
theorem cw_eq : cw = cw_ps.filterMap (fun i => lw_tbl[i]?) := by rfl
theorem cw_tbl : ∀ w ∈ cw, w ∈ lw_tbl := by
  intro w h
  rw [cw_eq] at h
  obtain ⟨i, -, hi⟩ := List.mem_filterMap.mp h
  exact List.mem_of_getElem? hi
theorem cw_all : cw.all goodWord = true := by decide +kernel
theorem cw_good : ∀ w ∈ cw, (w.onTables && w.keeps) = true ∨ ∃ ty, w = Cond.arrayClass ty := fun w h => good_of_word (List.all_eq_true.mp cw_all w h)
set_option maxRecDepth 20000 in
theorem ks_D_begin : (Jvm.Cond.selects "BuildDrawer$Drawing" ({ cls := "BuildDrawer$Drawing", name := "begin", desc := "(JII)V" } : Jvm.MethodName) ({ cls := "BuildDrawer$Drawing", name := "begin", desc := "(JII)V" } : Jvm.MethodName)) ∈ cw := List.mem_of_getElem? (i := 0) (by rfl)
set_option maxRecDepth 20000 in
theorem ks_D_chance : (Jvm.Cond.selects "BuildDrawer$Drawing" ({ cls := "BuildDrawer$Drawing", name := "chance", desc := "(I)I" } : Jvm.MethodName) ({ cls := "BuildDrawer$Drawing", name := "chance", desc := "(I)I" } : Jvm.MethodName)) ∈ cw := List.mem_of_getElem? (i := 1) (by rfl)
set_option maxRecDepth 20000 in
theorem ks_D_next : (Jvm.Cond.selects "BuildDrawer$Drawing" ({ cls := "BuildDrawer$Drawing", name := "next", desc := "()V" } : Jvm.MethodName) ({ cls := "BuildDrawer$Drawing", name := "next", desc := "()V" } : Jvm.MethodName)) ∈ cw := List.mem_of_getElem? (i := 2) (by rfl)
set_option maxRecDepth 20000 in
theorem ks_D_nextSort : (Jvm.Cond.selects "BuildDrawer$Drawing" ({ cls := "BuildDrawer$Drawing", name := "nextSort", desc := "()I" } : Jvm.MethodName) ({ cls := "BuildDrawer$Drawing", name := "nextSort", desc := "()I" } : Jvm.MethodName)) ∈ cw := List.mem_of_getElem? (i := 3) (by rfl)
set_option maxRecDepth 20000 in
theorem ks_D_nextB : (Jvm.Cond.selects "BuildDrawer$Drawing" ({ cls := "BuildDrawer$Drawing", name := "nextB", desc := "()I" } : Jvm.MethodName) ({ cls := "BuildDrawer$Drawing", name := "nextB", desc := "()I" } : Jvm.MethodName)) ∈ cw := List.mem_of_getElem? (i := 4) (by rfl)
set_option maxRecDepth 20000 in
theorem ks_D_nextBOfStep : (Jvm.Cond.selects "BuildDrawer$Drawing" ({ cls := "BuildDrawer$Drawing", name := "nextBOfStep", desc := "()I" } : Jvm.MethodName) ({ cls := "BuildDrawer$Drawing", name := "nextBOfStep", desc := "()I" } : Jvm.MethodName)) ∈ cw := List.mem_of_getElem? (i := 5) (by rfl)
set_option maxRecDepth 20000 in
theorem ks_D_nextNeed : (Jvm.Cond.selects "BuildDrawer$Drawing" ({ cls := "BuildDrawer$Drawing", name := "nextNeed", desc := "()I" } : Jvm.MethodName) ({ cls := "BuildDrawer$Drawing", name := "nextNeed", desc := "()I" } : Jvm.MethodName)) ∈ cw := List.mem_of_getElem? (i := 6) (by rfl)
set_option maxRecDepth 20000 in
theorem ks_B_takeAllBack : (Jvm.Cond.selects "BuildDrawer" ({ cls := "BuildDrawer", name := "takeAllBack", desc := "()V" } : Jvm.MethodName) ({ cls := "BuildDrawer", name := "takeAllBack", desc := "()V" } : Jvm.MethodName)) ∈ cw := List.mem_of_getElem? (i := 7) (by rfl)
set_option maxRecDepth 20000 in
theorem ks_B_isPart : (Jvm.Cond.selects "BuildDrawer" ({ cls := "BuildDrawer", name := "isPart", desc := "(I)Z" } : Jvm.MethodName) ({ cls := "BuildDrawer", name := "isPart", desc := "(I)Z" } : Jvm.MethodName)) ∈ cw := List.mem_of_getElem? (i := 8) (by rfl)
set_option maxRecDepth 20000 in
theorem ks_B_commonSet : (Jvm.Cond.selects "BuildDrawer" ({ cls := "BuildDrawer", name := "commonSet", desc := "()I" } : Jvm.MethodName) ({ cls := "BuildDrawer", name := "commonSet", desc := "()I" } : Jvm.MethodName)) ∈ cw := List.mem_of_getElem? (i := 9) (by rfl)
set_option maxRecDepth 20000 in
theorem ks_B_writeText : (Jvm.Cond.selects "BuildDrawer" ({ cls := "BuildDrawer", name := "writeText", desc := "()V" } : Jvm.MethodName) ({ cls := "BuildDrawer", name := "writeText", desc := "()V" } : Jvm.MethodName)) ∈ cw := List.mem_of_getElem? (i := 10) (by rfl)
set_option maxRecDepth 20000 in
theorem ks_B_writePart : (Jvm.Cond.selects "BuildDrawer" ({ cls := "BuildDrawer", name := "writePart", desc := "(I)V" } : Jvm.MethodName) ({ cls := "BuildDrawer", name := "writePart", desc := "(I)V" } : Jvm.MethodName)) ∈ cw := List.mem_of_getElem? (i := 11) (by rfl)
set_option maxRecDepth 20000 in
theorem ks_B_writeSign : (Jvm.Cond.selects "BuildDrawer" ({ cls := "BuildDrawer", name := "writeSign", desc := "(C)V" } : Jvm.MethodName) ({ cls := "BuildDrawer", name := "writeSign", desc := "(C)V" } : Jvm.MethodName)) ∈ cw := List.mem_of_getElem? (i := 12) (by rfl)
set_option maxRecDepth 20000 in
theorem ks_B_writeNumber : (Jvm.Cond.selects "BuildDrawer" ({ cls := "BuildDrawer", name := "writeNumber", desc := "(I)V" } : Jvm.MethodName) ({ cls := "BuildDrawer", name := "writeNumber", desc := "(I)V" } : Jvm.MethodName)) ∈ cw := List.mem_of_getElem? (i := 13) (by rfl)
set_option maxRecDepth 20000 in
theorem ks_B_writeDigit : (Jvm.Cond.selects "BuildDrawer" ({ cls := "BuildDrawer", name := "writeDigit", desc := "(I)V" } : Jvm.MethodName) ({ cls := "BuildDrawer", name := "writeDigit", desc := "(I)V" } : Jvm.MethodName)) ∈ cw := List.mem_of_getElem? (i := 14) (by rfl)
set_option maxRecDepth 20000 in
theorem ks_B_marksLeft : (Jvm.Cond.selects "BuildDrawer" ({ cls := "BuildDrawer", name := "marksLeft", desc := "()I" } : Jvm.MethodName) ({ cls := "BuildDrawer", name := "marksLeft", desc := "()I" } : Jvm.MethodName)) ∈ cw := List.mem_of_getElem? (i := 15) (by rfl)
set_option maxRecDepth 20000 in
theorem ks_B_holdsOf : (Jvm.Cond.selects "BuildDrawer" ({ cls := "BuildDrawer", name := "holdsOf", desc := "(I)Z" } : Jvm.MethodName) ({ cls := "BuildDrawer", name := "holdsOf", desc := "(I)Z" } : Jvm.MethodName)) ∈ cw := List.mem_of_getElem? (i := 16) (by rfl)
set_option maxRecDepth 20000 in
theorem ks_B_leaveOutAllThatCanGo : (Jvm.Cond.selects "BuildDrawer" ({ cls := "BuildDrawer", name := "leaveOutAllThatCanGo", desc := "()V" } : Jvm.MethodName) ({ cls := "BuildDrawer", name := "leaveOutAllThatCanGo", desc := "()V" } : Jvm.MethodName)) ∈ cw := List.mem_of_getElem? (i := 17) (by rfl)
set_option maxRecDepth 20000 in
theorem ks_B_leaveOutFromLastToFirst : (Jvm.Cond.selects "BuildDrawer" ({ cls := "BuildDrawer", name := "leaveOutFromLastToFirst", desc := "()Z" } : Jvm.MethodName) ({ cls := "BuildDrawer", name := "leaveOutFromLastToFirst", desc := "()Z" } : Jvm.MethodName)) ∈ cw := List.mem_of_getElem? (i := 18) (by rfl)
set_option maxRecDepth 20000 in
theorem ks_B_canGo : (Jvm.Cond.selects "BuildDrawer" ({ cls := "BuildDrawer", name := "canGo", desc := "(I)Z" } : Jvm.MethodName) ({ cls := "BuildDrawer", name := "canGo", desc := "(I)Z" } : Jvm.MethodName)) ∈ cw := List.mem_of_getElem? (i := 19) (by rfl)
set_option maxRecDepth 20000 in
theorem ks_B_countLeft : (Jvm.Cond.selects "BuildDrawer" ({ cls := "BuildDrawer", name := "countLeft", desc := "()I" } : Jvm.MethodName) ({ cls := "BuildDrawer", name := "countLeft", desc := "()I" } : Jvm.MethodName)) ∈ cw := List.mem_of_getElem? (i := 20) (by rfl)
set_option maxRecDepth 20000 in
theorem ks_D_isAtTheLikeOf : (Jvm.Cond.selects "BuildDrawer$Drawing" ({ cls := "BuildDrawer$Drawing", name := "isAtTheLikeOf", desc := "(LBuildDrawer$Drawing;)Z" } : Jvm.MethodName) ({ cls := "BuildDrawer$Drawing", name := "isAtTheLikeOf", desc := "(LBuildDrawer$Drawing;)Z" } : Jvm.MethodName)) ∈ cw := List.mem_of_getElem? (i := 21) (by rfl)
set_option maxRecDepth 20000 in
theorem ks_M_fill : (Jvm.Cond.selects "BuildDrawerModel" ({ cls := "BuildDrawerModel", name := "fill", desc := "(JIII)V" } : Jvm.MethodName) ({ cls := "BuildDrawerModel", name := "fill", desc := "(JIII)V" } : Jvm.MethodName)) ∈ cw := List.mem_of_getElem? (i := 22) (by rfl)
set_option maxRecDepth 20000 in
theorem ks_M_chance : (Jvm.Cond.selects "BuildDrawerModel" ({ cls := "BuildDrawerModel", name := "chance", desc := "(I)I" } : Jvm.MethodName) ({ cls := "BuildDrawerModel", name := "chance", desc := "(I)I" } : Jvm.MethodName)) ∈ cw := List.mem_of_getElem? (i := 23) (by rfl)
set_option maxRecDepth 20000 in
theorem ks_M_drawB : (Jvm.Cond.selects "BuildDrawerModel" ({ cls := "BuildDrawerModel", name := "drawB", desc := "(I)I" } : Jvm.MethodName) ({ cls := "BuildDrawerModel", name := "drawB", desc := "(I)I" } : Jvm.MethodName)) ∈ cw := List.mem_of_getElem? (i := 24) (by rfl)
set_option maxRecDepth 20000 in
theorem ks_M_holds : (Jvm.Cond.selects "BuildDrawerModel" ({ cls := "BuildDrawerModel", name := "holds", desc := "(I)Z" } : Jvm.MethodName) ({ cls := "BuildDrawerModel", name := "holds", desc := "(I)Z" } : Jvm.MethodName)) ∈ cw := List.mem_of_getElem? (i := 25) (by rfl)
set_option maxRecDepth 20000 in
theorem ks_M_canGo : (Jvm.Cond.selects "BuildDrawerModel" ({ cls := "BuildDrawerModel", name := "canGo", desc := "(I)Z" } : Jvm.MethodName) ({ cls := "BuildDrawerModel", name := "canGo", desc := "(I)Z" } : Jvm.MethodName)) ∈ cw := List.mem_of_getElem? (i := 26) (by rfl)
set_option maxRecDepth 20000 in
theorem ks_M_count : (Jvm.Cond.selects "BuildDrawerModel" ({ cls := "BuildDrawerModel", name := "count", desc := "()I" } : Jvm.MethodName) ({ cls := "BuildDrawerModel", name := "count", desc := "()I" } : Jvm.MethodName)) ∈ cw := List.mem_of_getElem? (i := 27) (by rfl)
set_option maxRecDepth 20000 in
theorem ks_M_shared : (Jvm.Cond.selects "BuildDrawerModel" ({ cls := "BuildDrawerModel", name := "shared", desc := "()J" } : Jvm.MethodName) ({ cls := "BuildDrawerModel", name := "shared", desc := "()J" } : Jvm.MethodName)) ∈ cw := List.mem_of_getElem? (i := 28) (by rfl)
set_option maxRecDepth 20000 in
theorem ks_M_say : (Jvm.Cond.selects "BuildDrawerModel" ({ cls := "BuildDrawerModel", name := "say", desc := "(I)V" } : Jvm.MethodName) ({ cls := "BuildDrawerModel", name := "say", desc := "(I)V" } : Jvm.MethodName)) ∈ cw := List.mem_of_getElem? (i := 29) (by rfl)
set_option maxRecDepth 20000 in
theorem ks_M_sayNumber : (Jvm.Cond.selects "BuildDrawerModel" ({ cls := "BuildDrawerModel", name := "sayNumber", desc := "(I)V" } : Jvm.MethodName) ({ cls := "BuildDrawerModel", name := "sayNumber", desc := "(I)V" } : Jvm.MethodName)) ∈ cw := List.mem_of_getElem? (i := 30) (by rfl)
set_option maxRecDepth 20000 in
theorem k_0 : (Jvm.Cond.initialized "BuildDrawerLaw") ∈ cw := List.mem_of_getElem? (i := 31) (by rfl)
set_option maxRecDepth 20000 in
theorem k_1 : (Jvm.Cond.initialized "BuildDrawer") ∈ cw := List.mem_of_getElem? (i := 32) (by rfl)
set_option maxRecDepth 20000 in
theorem k_2 : (Jvm.Cond.initialized "BuildDrawer$Drawing") ∈ cw := List.mem_of_getElem? (i := 33) (by rfl)
set_option maxRecDepth 20000 in
theorem k_3 : (Jvm.Cond.initialized "BuildDrawerModel") ∈ cw := List.mem_of_getElem? (i := 34) (by rfl)
set_option maxRecDepth 20000 in
theorem k_4 : (Jvm.Cond.initialized "java/lang/Integer") ∈ cw := List.mem_of_getElem? (i := 35) (by rfl)
set_option maxRecDepth 20000 in
theorem k_5 : (Jvm.Cond.initialized "java/lang/String") ∈ cw := List.mem_of_getElem? (i := 36) (by rfl)
set_option maxRecDepth 20000 in
theorem k_6 : (Jvm.Cond.initialized "java/lang/StringLatin1") ∈ cw := List.mem_of_getElem? (i := 37) (by rfl)
set_option maxRecDepth 20000 in
theorem k_7 : (Jvm.Cond.initialized "jdk/internal/util/Preconditions") ∈ cw := List.mem_of_getElem? (i := 38) (by rfl)
set_option maxRecDepth 20000 in
theorem k_9 : (Jvm.Cond.classLink "BuildDrawerLaw" (7 : Nat) "BuildDrawer") ∈ cw := List.mem_of_getElem? (i := 39) (by rfl)
set_option maxRecDepth 20000 in
theorem k_10 : (Jvm.Cond.instantiable "BuildDrawer" (14 : Nat)) ∈ cw := List.mem_of_getElem? (i := 40) (by rfl)
set_option maxRecDepth 20000 in
theorem k_11 : (Jvm.Cond.methodLink "BuildDrawerLaw" (15 : Nat) ({ cls := "BuildDrawer", name := "<init>", desc := "(J)V" } : Jvm.MethodName)) ∈ cw := List.mem_of_getElem? (i := 41) (by rfl)
set_option maxRecDepth 20000 in
theorem k_12 : (Jvm.Cond.instanceMethod ({ cls := "BuildDrawer", name := "<init>", desc := "(J)V" } : Jvm.MethodName)) ∈ cw := List.mem_of_getElem? (i := 42) (by rfl)
set_option maxRecDepth 20000 in
theorem k_13 : (Jvm.Cond.code ({ cls := "BuildDrawer", name := "<init>", desc := "(J)V" } : Jvm.MethodName) prog_1_method_1_code (3 : Nat) (Option.none : Option Jvm.ClassFile.FieldType)) ∈ cw := List.mem_of_getElem? (i := 43) (by rfl)
set_option maxRecDepth 20000 in
theorem k_14 : (Jvm.Cond.methodLink "BuildDrawer" (3 : Nat) ({ cls := "java/lang/Object", name := "<init>", desc := "()V" } : Jvm.MethodName)) ∈ cw := List.mem_of_getElem? (i := 44) (by rfl)
set_option maxRecDepth 20000 in
theorem k_15 : (Jvm.Cond.instanceMethod ({ cls := "java/lang/Object", name := "<init>", desc := "()V" } : Jvm.MethodName)) ∈ cw := List.mem_of_getElem? (i := 45) (by rfl)
set_option maxRecDepth 20000 in
theorem k_16 : (Jvm.Cond.code ({ cls := "java/lang/Object", name := "<init>", desc := "()V" } : Jvm.MethodName) object_method_1_code (1 : Nat) (Option.none : Option Jvm.ClassFile.FieldType)) ∈ cw := List.mem_of_getElem? (i := 46) (by rfl)
set_option maxRecDepth 20000 in
theorem k_17 : (Jvm.Cond.classLink "BuildDrawer" (9 : Nat) "BuildDrawer$Drawing") ∈ cw := List.mem_of_getElem? (i := 47) (by rfl)
set_option maxRecDepth 20000 in
theorem k_18 : (Jvm.Cond.instantiable "BuildDrawer$Drawing" (9 : Nat)) ∈ cw := List.mem_of_getElem? (i := 48) (by rfl)
set_option maxRecDepth 20000 in
theorem k_20 : (Jvm.Cond.instanceMethod ({ cls := "BuildDrawer$Drawing", name := "<init>", desc := "()V" } : Jvm.MethodName)) ∈ cw := List.mem_of_getElem? (i := 49) (by rfl)
set_option maxRecDepth 20000 in
theorem k_21 : (Jvm.Cond.code ({ cls := "BuildDrawer$Drawing", name := "<init>", desc := "()V" } : Jvm.MethodName) prog_2_method_1_code (1 : Nat) (Option.none : Option Jvm.ClassFile.FieldType)) ∈ cw := List.mem_of_getElem? (i := 50) (by rfl)
set_option maxRecDepth 20000 in
theorem k_22 : (Jvm.Cond.methodLink "BuildDrawer$Drawing" (3 : Nat) ({ cls := "java/lang/Object", name := "<init>", desc := "()V" } : Jvm.MethodName)) ∈ cw := List.mem_of_getElem? (i := 51) (by rfl)
set_option maxRecDepth 20000 in
theorem k_23 : (Jvm.Cond.fieldLink "BuildDrawer$Drawing" (9 : Nat) "BuildDrawer$Drawing" "word" "J") ∈ cw := List.mem_of_getElem? (i := 52) (by rfl)
set_option maxRecDepth 20000 in
theorem k_24 : (Jvm.Cond.fieldLink "BuildDrawer$Drawing" (15 : Nat) "BuildDrawer$Drawing" "sortOfKind" "I") ∈ cw := List.mem_of_getElem? (i := 53) (by rfl)
set_option maxRecDepth 20000 in
theorem k_25 : (Jvm.Cond.fieldLink "BuildDrawer$Drawing" (19 : Nat) "BuildDrawer$Drawing" "plantedBit" "I") ∈ cw := List.mem_of_getElem? (i := 54) (by rfl)
set_option maxRecDepth 20000 in
theorem k_26 : (Jvm.Cond.fieldLink "BuildDrawer$Drawing" (22 : Nat) "BuildDrawer$Drawing" "number" "I") ∈ cw := List.mem_of_getElem? (i := 55) (by rfl)
set_option maxRecDepth 20000 in
theorem k_27 : (Jvm.Cond.fieldLink "BuildDrawer$Drawing" (25 : Nat) "BuildDrawer$Drawing" "sort" "I") ∈ cw := List.mem_of_getElem? (i := 56) (by rfl)
set_option maxRecDepth 20000 in
theorem k_29 : (Jvm.Cond.fieldLink "BuildDrawer$Drawing" (28 : Nat) "BuildDrawer$Drawing" "a" "I") ∈ cw := List.mem_of_getElem? (i := 57) (by rfl)
set_option maxRecDepth 20000 in
theorem k_31 : (Jvm.Cond.fieldLink "BuildDrawer$Drawing" (31 : Nat) "BuildDrawer$Drawing" "b" "I") ∈ cw := List.mem_of_getElem? (i := 58) (by rfl)
set_option maxRecDepth 20000 in
theorem k_33 : (Jvm.Cond.fieldLink "BuildDrawer$Drawing" (34 : Nat) "BuildDrawer$Drawing" "need" "I") ∈ cw := List.mem_of_getElem? (i := 59) (by rfl)
set_option maxRecDepth 20000 in
theorem k_35 : (Jvm.Cond.fieldLink "BuildDrawer$Drawing" (37 : Nat) "BuildDrawer$Drawing" "mark" "I") ∈ cw := List.mem_of_getElem? (i := 60) (by rfl)
set_option maxRecDepth 20000 in
theorem k_37 : (Jvm.Cond.lays "BuildDrawer$Drawing" "BuildDrawer$Drawing" "word" "J") ∈ cw := List.mem_of_getElem? (i := 61) (by rfl)
set_option maxRecDepth 20000 in
theorem k_39 : (Jvm.Cond.lays "BuildDrawer$Drawing" "BuildDrawer$Drawing" "sortOfKind" "I") ∈ cw := List.mem_of_getElem? (i := 62) (by rfl)
set_option maxRecDepth 20000 in
theorem k_41 : (Jvm.Cond.lays "BuildDrawer$Drawing" "BuildDrawer$Drawing" "plantedBit" "I") ∈ cw := List.mem_of_getElem? (i := 63) (by rfl)
set_option maxRecDepth 20000 in
theorem k_43 : (Jvm.Cond.lays "BuildDrawer$Drawing" "BuildDrawer$Drawing" "number" "I") ∈ cw := List.mem_of_getElem? (i := 64) (by rfl)
set_option maxRecDepth 20000 in
theorem k_45 : (Jvm.Cond.lays "BuildDrawer$Drawing" "BuildDrawer$Drawing" "sort" "I") ∈ cw := List.mem_of_getElem? (i := 65) (by rfl)
set_option maxRecDepth 20000 in
theorem k_47 : (Jvm.Cond.lays "BuildDrawer$Drawing" "BuildDrawer$Drawing" "a" "I") ∈ cw := List.mem_of_getElem? (i := 66) (by rfl)
set_option maxRecDepth 20000 in
theorem k_49 : (Jvm.Cond.lays "BuildDrawer$Drawing" "BuildDrawer$Drawing" "b" "I") ∈ cw := List.mem_of_getElem? (i := 67) (by rfl)
set_option maxRecDepth 20000 in
theorem k_51 : (Jvm.Cond.lays "BuildDrawer$Drawing" "BuildDrawer$Drawing" "need" "I") ∈ cw := List.mem_of_getElem? (i := 68) (by rfl)
set_option maxRecDepth 20000 in
theorem k_53 : (Jvm.Cond.lays "BuildDrawer$Drawing" "BuildDrawer$Drawing" "mark" "I") ∈ cw := List.mem_of_getElem? (i := 69) (by rfl)
set_option maxRecDepth 20000 in
theorem k_56 : (Jvm.Cond.fieldLink "BuildDrawer" (57 : Nat) "BuildDrawer" "seed" "J") ∈ cw := List.mem_of_getElem? (i := 70) (by rfl)
set_option maxRecDepth 20000 in
theorem k_57 : (Jvm.Cond.fieldLink "BuildDrawer" (12 : Nat) "BuildDrawer" "mine" "LBuildDrawer$Drawing;") ∈ cw := List.mem_of_getElem? (i := 71) (by rfl)
set_option maxRecDepth 20000 in
theorem k_58 : (Jvm.Cond.fieldLink "BuildDrawer" (16 : Nat) "BuildDrawer" "others" "LBuildDrawer$Drawing;") ∈ cw := List.mem_of_getElem? (i := 72) (by rfl)
set_option maxRecDepth 20000 in
theorem k_59 : (Jvm.Cond.fieldLink "BuildDrawer" (19 : Nat) "BuildDrawer" "count" "I") ∈ cw := List.mem_of_getElem? (i := 73) (by rfl)
set_option maxRecDepth 20000 in
theorem k_60 : (Jvm.Cond.fieldLink "BuildDrawer" (23 : Nat) "BuildDrawer" "sorts" "[I") ∈ cw := List.mem_of_getElem? (i := 74) (by rfl)
set_option maxRecDepth 20000 in
theorem k_61 : (Jvm.Cond.fieldLink "BuildDrawer" (27 : Nat) "BuildDrawer" "as" "[I") ∈ cw := List.mem_of_getElem? (i := 75) (by rfl)
set_option maxRecDepth 20000 in
theorem k_62 : (Jvm.Cond.fieldLink "BuildDrawer" (30 : Nat) "BuildDrawer" "bs" "[I") ∈ cw := List.mem_of_getElem? (i := 76) (by rfl)
set_option maxRecDepth 20000 in
theorem k_63 : (Jvm.Cond.fieldLink "BuildDrawer" (33 : Nat) "BuildDrawer" "needs" "[I") ∈ cw := List.mem_of_getElem? (i := 77) (by rfl)
set_option maxRecDepth 20000 in
theorem k_64 : (Jvm.Cond.fieldLink "BuildDrawer" (36 : Nat) "BuildDrawer" "marks" "[I") ∈ cw := List.mem_of_getElem? (i := 78) (by rfl)
set_option maxRecDepth 20000 in
theorem k_65 : (Jvm.Cond.fieldLink "BuildDrawer" (39 : Nat) "BuildDrawer" "isLeft" "[Z") ∈ cw := List.mem_of_getElem? (i := 79) (by rfl)
set_option maxRecDepth 20000 in
theorem k_66 : (Jvm.Cond.fieldLink "BuildDrawer" (43 : Nat) "BuildDrawer" "verdictBits" "I") ∈ cw := List.mem_of_getElem? (i := 80) (by rfl)
set_option maxRecDepth 20000 in
theorem k_67 : (Jvm.Cond.fieldLink "BuildDrawer" (46 : Nat) "BuildDrawer" "verdictStays" "Z") ∈ cw := List.mem_of_getElem? (i := 81) (by rfl)
set_option maxRecDepth 20000 in
theorem k_68 : (Jvm.Cond.fieldLink "BuildDrawer" (50 : Nat) "BuildDrawer" "text" "[C") ∈ cw := List.mem_of_getElem? (i := 82) (by rfl)
set_option maxRecDepth 20000 in
theorem k_69 : (Jvm.Cond.fieldLink "BuildDrawer" (54 : Nat) "BuildDrawer" "textLength" "I") ∈ cw := List.mem_of_getElem? (i := 83) (by rfl)
set_option maxRecDepth 20000 in
theorem k_70 : (Jvm.Cond.laysFinal "BuildDrawer" "BuildDrawer" "seed" "J") ∈ cw := List.mem_of_getElem? (i := 84) (by rfl)
set_option maxRecDepth 20000 in
theorem k_72 : (Jvm.Cond.laysFinal "BuildDrawer" "BuildDrawer" "mine" "LBuildDrawer$Drawing;") ∈ cw := List.mem_of_getElem? (i := 85) (by rfl)
set_option maxRecDepth 20000 in
theorem k_74 : (Jvm.Cond.laysFinal "BuildDrawer" "BuildDrawer" "others" "LBuildDrawer$Drawing;") ∈ cw := List.mem_of_getElem? (i := 86) (by rfl)
set_option maxRecDepth 20000 in
theorem k_76 : (Jvm.Cond.lays "BuildDrawer" "BuildDrawer" "count" "I") ∈ cw := List.mem_of_getElem? (i := 87) (by rfl)
set_option maxRecDepth 20000 in
theorem k_78 : (Jvm.Cond.laysFinal "BuildDrawer" "BuildDrawer" "sorts" "[I") ∈ cw := List.mem_of_getElem? (i := 88) (by rfl)
set_option maxRecDepth 20000 in
theorem k_80 : (Jvm.Cond.laysFinal "BuildDrawer" "BuildDrawer" "as" "[I") ∈ cw := List.mem_of_getElem? (i := 89) (by rfl)
set_option maxRecDepth 20000 in
theorem k_82 : (Jvm.Cond.laysFinal "BuildDrawer" "BuildDrawer" "bs" "[I") ∈ cw := List.mem_of_getElem? (i := 90) (by rfl)
set_option maxRecDepth 20000 in
theorem k_84 : (Jvm.Cond.laysFinal "BuildDrawer" "BuildDrawer" "needs" "[I") ∈ cw := List.mem_of_getElem? (i := 91) (by rfl)
set_option maxRecDepth 20000 in
theorem k_86 : (Jvm.Cond.laysFinal "BuildDrawer" "BuildDrawer" "marks" "[I") ∈ cw := List.mem_of_getElem? (i := 92) (by rfl)
set_option maxRecDepth 20000 in
theorem k_88 : (Jvm.Cond.laysFinal "BuildDrawer" "BuildDrawer" "isLeft" "[Z") ∈ cw := List.mem_of_getElem? (i := 93) (by rfl)
set_option maxRecDepth 20000 in
theorem k_90 : (Jvm.Cond.lays "BuildDrawer" "BuildDrawer" "verdictBits" "I") ∈ cw := List.mem_of_getElem? (i := 94) (by rfl)
set_option maxRecDepth 20000 in
theorem k_92 : (Jvm.Cond.lays "BuildDrawer" "BuildDrawer" "verdictStays" "Z") ∈ cw := List.mem_of_getElem? (i := 95) (by rfl)
set_option maxRecDepth 20000 in
theorem k_94 : (Jvm.Cond.laysFinal "BuildDrawer" "BuildDrawer" "text" "[C") ∈ cw := List.mem_of_getElem? (i := 96) (by rfl)
set_option maxRecDepth 20000 in
theorem k_96 : (Jvm.Cond.lays "BuildDrawer" "BuildDrawer" "textLength" "I") ∈ cw := List.mem_of_getElem? (i := 97) (by rfl)
set_option maxRecDepth 20000 in
theorem k_99 : (Jvm.Cond.arrayClass Jvm.ClassFile.FieldType.int) ∈ cw := List.mem_of_getElem? (i := 98) (by rfl)
set_option maxRecDepth 20000 in
theorem k_100 : (Jvm.Cond.arrayClass Jvm.ClassFile.FieldType.boolean) ∈ cw := List.mem_of_getElem? (i := 99) (by rfl)
set_option maxRecDepth 20000 in
theorem k_101 : (Jvm.Cond.arrayClass Jvm.ClassFile.FieldType.char) ∈ cw := List.mem_of_getElem? (i := 100) (by rfl)
set_option maxRecDepth 20000 in
theorem k_102 : (Jvm.Cond.methodLink "BuildDrawerLaw" (21 : Nat) ({ cls := "BuildDrawer", name := "draw", desc := "(II)I" } : Jvm.MethodName)) ∈ cw := List.mem_of_getElem? (i := 101) (by rfl)
set_option maxRecDepth 20000 in
theorem k_103 : (Jvm.Cond.instanceMethod ({ cls := "BuildDrawer", name := "draw", desc := "(II)I" } : Jvm.MethodName)) ∈ cw := List.mem_of_getElem? (i := 102) (by rfl)
set_option maxRecDepth 20000 in
theorem k_104 : (Jvm.Cond.selects "BuildDrawer" ({ cls := "BuildDrawer", name := "draw", desc := "(II)I" } : Jvm.MethodName) ({ cls := "BuildDrawer", name := "draw", desc := "(II)I" } : Jvm.MethodName)) ∈ cw := List.mem_of_getElem? (i := 103) (by rfl)
set_option maxRecDepth 20000 in
theorem k_105 : (Jvm.Cond.code ({ cls := "BuildDrawer", name := "draw", desc := "(II)I" } : Jvm.MethodName) prog_1_method_2_code (4 : Nat) (Option.some Jvm.ClassFile.FieldType.int)) ∈ cw := List.mem_of_getElem? (i := 104) (by rfl)
set_option maxRecDepth 20000 in
theorem k_106 : (Jvm.Cond.methodLink "BuildDrawer" (61 : Nat) ({ cls := "BuildDrawer", name := "canBeDrawn", desc := "(II)Z" } : Jvm.MethodName)) ∈ cw := List.mem_of_getElem? (i := 105) (by rfl)
set_option maxRecDepth 20000 in
theorem k_107 : (Jvm.Cond.static ({ cls := "BuildDrawer", name := "canBeDrawn", desc := "(II)Z" } : Jvm.MethodName)) ∈ cw := List.mem_of_getElem? (i := 106) (by rfl)
set_option maxRecDepth 20000 in
theorem k_108 : (Jvm.Cond.code ({ cls := "BuildDrawer", name := "canBeDrawn", desc := "(II)Z" } : Jvm.MethodName) prog_1_method_10_code (2 : Nat) (Option.some Jvm.ClassFile.FieldType.boolean)) ∈ cw := List.mem_of_getElem? (i := 107) (by rfl)
set_option maxRecDepth 20000 in
theorem k_111 : (Jvm.Cond.instanceMethod ({ cls := "BuildDrawer$Drawing", name := "begin", desc := "(JII)V" } : Jvm.MethodName)) ∈ cw := List.mem_of_getElem? (i := 108) (by rfl)
set_option maxRecDepth 20000 in
theorem k_112 : (Jvm.Cond.code ({ cls := "BuildDrawer$Drawing", name := "begin", desc := "(JII)V" } : Jvm.MethodName) prog_2_method_2_code (5 : Nat) (Option.none : Option Jvm.ClassFile.FieldType)) ∈ cw := List.mem_of_getElem? (i := 109) (by rfl)
set_option maxRecDepth 20000 in
theorem k_113 : (Jvm.Cond.constantLong "BuildDrawer$Drawing" (40 : Nat) (2862933555777941757 : Int64)) ∈ cw := List.mem_of_getElem? (i := 110) (by rfl)
set_option maxRecDepth 20000 in
theorem k_116 : (Jvm.Cond.methodLink "BuildDrawer$Drawing" (46 : Nat) ({ cls := "BuildDrawer$Drawing", name := "chance", desc := "(I)I" } : Jvm.MethodName)) ∈ cw := List.mem_of_getElem? (i := 111) (by rfl)
set_option maxRecDepth 20000 in
theorem k_118 : (Jvm.Cond.instanceMethod ({ cls := "BuildDrawer$Drawing", name := "chance", desc := "(I)I" } : Jvm.MethodName)) ∈ cw := List.mem_of_getElem? (i := 112) (by rfl)
set_option maxRecDepth 20000 in
theorem k_119 : (Jvm.Cond.code ({ cls := "BuildDrawer$Drawing", name := "chance", desc := "(I)I" } : Jvm.MethodName) prog_2_method_10_code (3 : Nat) (Option.some Jvm.ClassFile.FieldType.int)) ∈ cw := List.mem_of_getElem? (i := 113) (by rfl)
set_option maxRecDepth 20000 in
theorem k_120 : (Jvm.Cond.constantLong "BuildDrawer$Drawing" (66 : Nat) (6364136223846793005 : Int64)) ∈ cw := List.mem_of_getElem? (i := 114) (by rfl)
set_option maxRecDepth 20000 in
theorem k_121 : (Jvm.Cond.constantLong "BuildDrawer$Drawing" (68 : Nat) (1442695040888963407 : Int64)) ∈ cw := List.mem_of_getElem? (i := 115) (by rfl)
set_option maxRecDepth 20000 in
theorem k_122 : (Jvm.Cond.methodLink "BuildDrawer$Drawing" (50 : Nat) ({ cls := "BuildDrawer$Drawing", name := "bitOrNone", desc := "(I)I" } : Jvm.MethodName)) ∈ cw := List.mem_of_getElem? (i := 116) (by rfl)
set_option maxRecDepth 20000 in
theorem k_123 : (Jvm.Cond.static ({ cls := "BuildDrawer$Drawing", name := "bitOrNone", desc := "(I)I" } : Jvm.MethodName)) ∈ cw := List.mem_of_getElem? (i := 117) (by rfl)
set_option maxRecDepth 20000 in
theorem k_124 : (Jvm.Cond.code ({ cls := "BuildDrawer$Drawing", name := "bitOrNone", desc := "(I)I" } : Jvm.MethodName) prog_2_method_5_code (1 : Nat) (Option.some Jvm.ClassFile.FieldType.int)) ∈ cw := List.mem_of_getElem? (i := 118) (by rfl)
set_option maxRecDepth 20000 in
theorem k_127 : (Jvm.Cond.instanceMethod ({ cls := "BuildDrawer$Drawing", name := "next", desc := "()V" } : Jvm.MethodName)) ∈ cw := List.mem_of_getElem? (i := 119) (by rfl)
set_option maxRecDepth 20000 in
theorem k_128 : (Jvm.Cond.code ({ cls := "BuildDrawer$Drawing", name := "next", desc := "()V" } : Jvm.MethodName) prog_2_method_3_code (1 : Nat) (Option.none : Option Jvm.ClassFile.FieldType)) ∈ cw := List.mem_of_getElem? (i := 120) (by rfl)
set_option maxRecDepth 20000 in
theorem k_129 : (Jvm.Cond.methodLink "BuildDrawer$Drawing" (53 : Nat) ({ cls := "BuildDrawer$Drawing", name := "nextSort", desc := "()I" } : Jvm.MethodName)) ∈ cw := List.mem_of_getElem? (i := 121) (by rfl)
set_option maxRecDepth 20000 in
theorem k_131 : (Jvm.Cond.instanceMethod ({ cls := "BuildDrawer$Drawing", name := "nextSort", desc := "()I" } : Jvm.MethodName)) ∈ cw := List.mem_of_getElem? (i := 122) (by rfl)
set_option maxRecDepth 20000 in
theorem k_132 : (Jvm.Cond.code ({ cls := "BuildDrawer$Drawing", name := "nextSort", desc := "()I" } : Jvm.MethodName) prog_2_method_6_code (1 : Nat) (Option.some Jvm.ClassFile.FieldType.int)) ∈ cw := List.mem_of_getElem? (i := 123) (by rfl)
set_option maxRecDepth 20000 in
theorem k_133 : (Jvm.Cond.methodLink "BuildDrawer$Drawing" (57 : Nat) ({ cls := "BuildDrawer$Drawing", name := "nextB", desc := "()I" } : Jvm.MethodName)) ∈ cw := List.mem_of_getElem? (i := 124) (by rfl)
set_option maxRecDepth 20000 in
theorem k_135 : (Jvm.Cond.instanceMethod ({ cls := "BuildDrawer$Drawing", name := "nextB", desc := "()I" } : Jvm.MethodName)) ∈ cw := List.mem_of_getElem? (i := 125) (by rfl)
set_option maxRecDepth 20000 in
theorem k_136 : (Jvm.Cond.code ({ cls := "BuildDrawer$Drawing", name := "nextB", desc := "()I" } : Jvm.MethodName) prog_2_method_7_code (1 : Nat) (Option.some Jvm.ClassFile.FieldType.int)) ∈ cw := List.mem_of_getElem? (i := 126) (by rfl)
set_option maxRecDepth 20000 in
theorem k_137 : (Jvm.Cond.methodLink "BuildDrawer$Drawing" (63 : Nat) ({ cls := "BuildDrawer$Drawing", name := "nextBOfStep", desc := "()I" } : Jvm.MethodName)) ∈ cw := List.mem_of_getElem? (i := 127) (by rfl)
set_option maxRecDepth 20000 in
theorem k_139 : (Jvm.Cond.instanceMethod ({ cls := "BuildDrawer$Drawing", name := "nextBOfStep", desc := "()I" } : Jvm.MethodName)) ∈ cw := List.mem_of_getElem? (i := 128) (by rfl)
set_option maxRecDepth 20000 in
theorem k_140 : (Jvm.Cond.code ({ cls := "BuildDrawer$Drawing", name := "nextBOfStep", desc := "()I" } : Jvm.MethodName) prog_2_method_8_code (2 : Nat) (Option.some Jvm.ClassFile.FieldType.int)) ∈ cw := List.mem_of_getElem? (i := 129) (by rfl)
set_option maxRecDepth 20000 in
theorem k_141 : (Jvm.Cond.methodLink "BuildDrawer$Drawing" (60 : Nat) ({ cls := "BuildDrawer$Drawing", name := "nextNeed", desc := "()I" } : Jvm.MethodName)) ∈ cw := List.mem_of_getElem? (i := 130) (by rfl)
set_option maxRecDepth 20000 in
theorem k_143 : (Jvm.Cond.instanceMethod ({ cls := "BuildDrawer$Drawing", name := "nextNeed", desc := "()I" } : Jvm.MethodName)) ∈ cw := List.mem_of_getElem? (i := 131) (by rfl)
set_option maxRecDepth 20000 in
theorem k_144 : (Jvm.Cond.code ({ cls := "BuildDrawer$Drawing", name := "nextNeed", desc := "()I" } : Jvm.MethodName) prog_2_method_9_code (2 : Nat) (Option.some Jvm.ClassFile.FieldType.int)) ∈ cw := List.mem_of_getElem? (i := 132) (by rfl)
set_option maxRecDepth 20000 in
theorem k_145 : (Jvm.Cond.methodLink "BuildDrawer" (87 : Nat) ({ cls := "BuildDrawer", name := "takeAllBack", desc := "()V" } : Jvm.MethodName)) ∈ cw := List.mem_of_getElem? (i := 133) (by rfl)
set_option maxRecDepth 20000 in
theorem k_147 : (Jvm.Cond.instanceMethod ({ cls := "BuildDrawer", name := "takeAllBack", desc := "()V" } : Jvm.MethodName)) ∈ cw := List.mem_of_getElem? (i := 134) (by rfl)
set_option maxRecDepth 20000 in
theorem k_148 : (Jvm.Cond.code ({ cls := "BuildDrawer", name := "takeAllBack", desc := "()V" } : Jvm.MethodName) prog_1_method_12_code (2 : Nat) (Option.none : Option Jvm.ClassFile.FieldType)) ∈ cw := List.mem_of_getElem? (i := 135) (by rfl)
set_option maxRecDepth 20000 in
theorem k_149 : (Jvm.Cond.methodLink "BuildDrawerLaw" (26 : Nat) ({ cls := "BuildDrawer", name := "part", desc := "(II)J" } : Jvm.MethodName)) ∈ cw := List.mem_of_getElem? (i := 136) (by rfl)
set_option maxRecDepth 20000 in
theorem k_150 : (Jvm.Cond.instanceMethod ({ cls := "BuildDrawer", name := "part", desc := "(II)J" } : Jvm.MethodName)) ∈ cw := List.mem_of_getElem? (i := 137) (by rfl)
set_option maxRecDepth 20000 in
theorem k_151 : (Jvm.Cond.selects "BuildDrawer" ({ cls := "BuildDrawer", name := "part", desc := "(II)J" } : Jvm.MethodName) ({ cls := "BuildDrawer", name := "part", desc := "(II)J" } : Jvm.MethodName)) ∈ cw := List.mem_of_getElem? (i := 138) (by rfl)
set_option maxRecDepth 20000 in
theorem k_152 : (Jvm.Cond.code ({ cls := "BuildDrawer", name := "part", desc := "(II)J" } : Jvm.MethodName) prog_1_method_3_code (3 : Nat) (Option.some Jvm.ClassFile.FieldType.long)) ∈ cw := List.mem_of_getElem? (i := 139) (by rfl)
set_option maxRecDepth 20000 in
theorem k_153 : (Jvm.Cond.methodLink "BuildDrawer" (90 : Nat) ({ cls := "BuildDrawer", name := "isPart", desc := "(I)Z" } : Jvm.MethodName)) ∈ cw := List.mem_of_getElem? (i := 140) (by rfl)
set_option maxRecDepth 20000 in
theorem k_155 : (Jvm.Cond.instanceMethod ({ cls := "BuildDrawer", name := "isPart", desc := "(I)Z" } : Jvm.MethodName)) ∈ cw := List.mem_of_getElem? (i := 141) (by rfl)
set_option maxRecDepth 20000 in
theorem k_156 : (Jvm.Cond.code ({ cls := "BuildDrawer", name := "isPart", desc := "(I)Z" } : Jvm.MethodName) prog_1_method_11_code (2 : Nat) (Option.some Jvm.ClassFile.FieldType.boolean)) ∈ cw := List.mem_of_getElem? (i := 142) (by rfl)
set_option maxRecDepth 20000 in
theorem k_157 : (Jvm.Cond.constantLong "BuildDrawer" (94 : Nat) (-1 : Int64)) ∈ cw := List.mem_of_getElem? (i := 143) (by rfl)
set_option maxRecDepth 20000 in
theorem k_158 : (Jvm.Cond.methodLink "BuildDrawer" (96 : Nat) ({ cls := "BuildDrawer", name := "commonSet", desc := "()I" } : Jvm.MethodName)) ∈ cw := List.mem_of_getElem? (i := 144) (by rfl)
set_option maxRecDepth 20000 in
theorem k_160 : (Jvm.Cond.instanceMethod ({ cls := "BuildDrawer", name := "commonSet", desc := "()I" } : Jvm.MethodName)) ∈ cw := List.mem_of_getElem? (i := 145) (by rfl)
set_option maxRecDepth 20000 in
theorem k_161 : (Jvm.Cond.code ({ cls := "BuildDrawer", name := "commonSet", desc := "()I" } : Jvm.MethodName) prog_1_method_15_code (3 : Nat) (Option.some Jvm.ClassFile.FieldType.int)) ∈ cw := List.mem_of_getElem? (i := 146) (by rfl)
set_option maxRecDepth 20000 in
theorem k_162 : (Jvm.Cond.methodLink "BuildDrawer" (100 : Nat) ({ cls := "java/lang/Integer", name := "bitCount", desc := "(I)I" } : Jvm.MethodName)) ∈ cw := List.mem_of_getElem? (i := 147) (by rfl)
set_option maxRecDepth 20000 in
theorem k_163 : (Jvm.Cond.static ({ cls := "java/lang/Integer", name := "bitCount", desc := "(I)I" } : Jvm.MethodName)) ∈ cw := List.mem_of_getElem? (i := 148) (by rfl)
set_option maxRecDepth 20000 in
theorem k_164 : (Jvm.Cond.code ({ cls := "java/lang/Integer", name := "bitCount", desc := "(I)I" } : Jvm.MethodName) prog_5_method_49_code (1 : Nat) (Option.some Jvm.ClassFile.FieldType.int)) ∈ cw := List.mem_of_getElem? (i := 149) (by rfl)
set_option maxRecDepth 20000 in
theorem k_165 : (Jvm.Cond.constant "java/lang/Integer" (265 : Nat) (1431655765 : Int32)) ∈ cw := List.mem_of_getElem? (i := 150) (by rfl)
set_option maxRecDepth 20000 in
theorem k_166 : (Jvm.Cond.constant "java/lang/Integer" (266 : Nat) (858993459 : Int32)) ∈ cw := List.mem_of_getElem? (i := 151) (by rfl)
set_option maxRecDepth 20000 in
theorem k_167 : (Jvm.Cond.constant "java/lang/Integer" (267 : Nat) (252645135 : Int32)) ∈ cw := List.mem_of_getElem? (i := 152) (by rfl)
set_option maxRecDepth 20000 in
theorem k_168 : (Jvm.Cond.constantLong "BuildDrawer" (106 : Nat) (-2 : Int64)) ∈ cw := List.mem_of_getElem? (i := 153) (by rfl)
set_option maxRecDepth 20000 in
theorem k_169 : (Jvm.Cond.methodLink "BuildDrawerLaw" (31 : Nat) ({ cls := "BuildDrawer", name := "letter", desc := "(I)I" } : Jvm.MethodName)) ∈ cw := List.mem_of_getElem? (i := 154) (by rfl)
set_option maxRecDepth 20000 in
theorem k_170 : (Jvm.Cond.instanceMethod ({ cls := "BuildDrawer", name := "letter", desc := "(I)I" } : Jvm.MethodName)) ∈ cw := List.mem_of_getElem? (i := 155) (by rfl)
set_option maxRecDepth 20000 in
theorem k_171 : (Jvm.Cond.selects "BuildDrawer" ({ cls := "BuildDrawer", name := "letter", desc := "(I)I" } : Jvm.MethodName) ({ cls := "BuildDrawer", name := "letter", desc := "(I)I" } : Jvm.MethodName)) ∈ cw := List.mem_of_getElem? (i := 156) (by rfl)
set_option maxRecDepth 20000 in
theorem k_172 : (Jvm.Cond.code ({ cls := "BuildDrawer", name := "letter", desc := "(I)I" } : Jvm.MethodName) prog_1_method_4_code (2 : Nat) (Option.some Jvm.ClassFile.FieldType.int)) ∈ cw := List.mem_of_getElem? (i := 157) (by rfl)
set_option maxRecDepth 20000 in
theorem k_173 : (Jvm.Cond.methodLink "BuildDrawer" (108 : Nat) ({ cls := "BuildDrawer", name := "writeText", desc := "()V" } : Jvm.MethodName)) ∈ cw := List.mem_of_getElem? (i := 158) (by rfl)
set_option maxRecDepth 20000 in
theorem k_175 : (Jvm.Cond.instanceMethod ({ cls := "BuildDrawer", name := "writeText", desc := "()V" } : Jvm.MethodName)) ∈ cw := List.mem_of_getElem? (i := 159) (by rfl)
set_option maxRecDepth 20000 in
theorem k_176 : (Jvm.Cond.code ({ cls := "BuildDrawer", name := "writeText", desc := "()V" } : Jvm.MethodName) prog_1_method_20_code (2 : Nat) (Option.none : Option Jvm.ClassFile.FieldType)) ∈ cw := List.mem_of_getElem? (i := 160) (by rfl)
set_option maxRecDepth 20000 in
theorem k_177 : (Jvm.Cond.methodLink "BuildDrawer" (134 : Nat) ({ cls := "BuildDrawer", name := "writePart", desc := "(I)V" } : Jvm.MethodName)) ∈ cw := List.mem_of_getElem? (i := 161) (by rfl)
set_option maxRecDepth 20000 in
theorem k_179 : (Jvm.Cond.instanceMethod ({ cls := "BuildDrawer", name := "writePart", desc := "(I)V" } : Jvm.MethodName)) ∈ cw := List.mem_of_getElem? (i := 162) (by rfl)
set_option maxRecDepth 20000 in
theorem k_180 : (Jvm.Cond.code ({ cls := "BuildDrawer", name := "writePart", desc := "(I)V" } : Jvm.MethodName) prog_1_method_21_code (2 : Nat) (Option.none : Option Jvm.ClassFile.FieldType)) ∈ cw := List.mem_of_getElem? (i := 163) (by rfl)
set_option maxRecDepth 20000 in
theorem k_181 : (Jvm.Cond.methodLink "BuildDrawer" (138 : Nat) ({ cls := "BuildDrawer", name := "letterOf", desc := "(I)C" } : Jvm.MethodName)) ∈ cw := List.mem_of_getElem? (i := 164) (by rfl)
set_option maxRecDepth 20000 in
theorem k_182 : (Jvm.Cond.static ({ cls := "BuildDrawer", name := "letterOf", desc := "(I)C" } : Jvm.MethodName)) ∈ cw := List.mem_of_getElem? (i := 165) (by rfl)
set_option maxRecDepth 20000 in
theorem k_183 : (Jvm.Cond.code ({ cls := "BuildDrawer", name := "letterOf", desc := "(I)C" } : Jvm.MethodName) prog_1_method_22_code (1 : Nat) (Option.some Jvm.ClassFile.FieldType.char)) ∈ cw := List.mem_of_getElem? (i := 166) (by rfl)
set_option maxRecDepth 20000 in
theorem k_185 : (Jvm.Cond.methodLink "BuildDrawer" (151 : Nat) ({ cls := "java/lang/String", name := "length", desc := "()I" } : Jvm.MethodName)) ∈ cw := List.mem_of_getElem? (i := 167) (by rfl)
set_option maxRecDepth 20000 in
theorem k_186 : (Jvm.Cond.instanceMethod ({ cls := "java/lang/String", name := "length", desc := "()I" } : Jvm.MethodName)) ∈ cw := List.mem_of_getElem? (i := 168) (by rfl)
set_option maxRecDepth 20000 in
theorem k_187 : (Jvm.Cond.selects "java/lang/String" ({ cls := "java/lang/String", name := "length", desc := "()I" } : Jvm.MethodName) ({ cls := "java/lang/String", name := "length", desc := "()I" } : Jvm.MethodName)) ∈ cw := List.mem_of_getElem? (i := 169) (by rfl)
set_option maxRecDepth 20000 in
theorem k_188 : (Jvm.Cond.code ({ cls := "java/lang/String", name := "length", desc := "()I" } : Jvm.MethodName) prog_6_method_54_code (1 : Nat) (Option.some Jvm.ClassFile.FieldType.int)) ∈ cw := List.mem_of_getElem? (i := 170) (by rfl)
set_option maxRecDepth 20000 in
theorem k_189 : (Jvm.Cond.methodLink "java/lang/String" (335 : Nat) ({ cls := "java/lang/String", name := "coder", desc := "()B" } : Jvm.MethodName)) ∈ cw := List.mem_of_getElem? (i := 171) (by rfl)
set_option maxRecDepth 20000 in
theorem k_190 : (Jvm.Cond.instanceMethod ({ cls := "java/lang/String", name := "coder", desc := "()B" } : Jvm.MethodName)) ∈ cw := List.mem_of_getElem? (i := 172) (by rfl)
set_option maxRecDepth 20000 in
theorem k_191 : (Jvm.Cond.selects "java/lang/String" ({ cls := "java/lang/String", name := "coder", desc := "()B" } : Jvm.MethodName) ({ cls := "java/lang/String", name := "coder", desc := "()B" } : Jvm.MethodName)) ∈ cw := List.mem_of_getElem? (i := 173) (by rfl)
set_option maxRecDepth 20000 in
theorem k_192 : (Jvm.Cond.code ({ cls := "java/lang/String", name := "coder", desc := "()B" } : Jvm.MethodName) prog_6_method_152_code (1 : Nat) (Option.some Jvm.ClassFile.FieldType.byte)) ∈ cw := List.mem_of_getElem? (i := 174) (by rfl)
set_option maxRecDepth 20000 in
theorem k_193 : (Jvm.Cond.fieldLink "java/lang/String" (38 : Nat) "java/lang/String" "COMPACT_STRINGS" "Z") ∈ cw := List.mem_of_getElem? (i := 175) (by rfl)
set_option maxRecDepth 20000 in
theorem k_195 : (Jvm.Cond.methodLink "BuildDrawer" (156 : Nat) ({ cls := "java/lang/String", name := "charAt", desc := "(I)C" } : Jvm.MethodName)) ∈ cw := List.mem_of_getElem? (i := 176) (by rfl)
set_option maxRecDepth 20000 in
theorem k_196 : (Jvm.Cond.instanceMethod ({ cls := "java/lang/String", name := "charAt", desc := "(I)C" } : Jvm.MethodName)) ∈ cw := List.mem_of_getElem? (i := 177) (by rfl)
set_option maxRecDepth 20000 in
theorem k_197 : (Jvm.Cond.selects "java/lang/String" ({ cls := "java/lang/String", name := "charAt", desc := "(I)C" } : Jvm.MethodName) ({ cls := "java/lang/String", name := "charAt", desc := "(I)C" } : Jvm.MethodName)) ∈ cw := List.mem_of_getElem? (i := 178) (by rfl)
set_option maxRecDepth 20000 in
theorem k_198 : (Jvm.Cond.code ({ cls := "java/lang/String", name := "charAt", desc := "(I)C" } : Jvm.MethodName) prog_6_method_56_code (2 : Nat) (Option.some Jvm.ClassFile.FieldType.char)) ∈ cw := List.mem_of_getElem? (i := 179) (by rfl)
set_option maxRecDepth 20000 in
theorem k_199 : (Jvm.Cond.methodLink "java/lang/String" (492 : Nat) ({ cls := "java/lang/String", name := "isLatin1", desc := "()Z" } : Jvm.MethodName)) ∈ cw := List.mem_of_getElem? (i := 180) (by rfl)
set_option maxRecDepth 20000 in
theorem k_200 : (Jvm.Cond.instanceMethod ({ cls := "java/lang/String", name := "isLatin1", desc := "()Z" } : Jvm.MethodName)) ∈ cw := List.mem_of_getElem? (i := 181) (by rfl)
set_option maxRecDepth 20000 in
theorem k_201 : (Jvm.Cond.selects "java/lang/String" ({ cls := "java/lang/String", name := "isLatin1", desc := "()Z" } : Jvm.MethodName) ({ cls := "java/lang/String", name := "isLatin1", desc := "()Z" } : Jvm.MethodName)) ∈ cw := List.mem_of_getElem? (i := 182) (by rfl)
set_option maxRecDepth 20000 in
theorem k_202 : (Jvm.Cond.code ({ cls := "java/lang/String", name := "isLatin1", desc := "()Z" } : Jvm.MethodName) prog_6_method_154_code (1 : Nat) (Option.some Jvm.ClassFile.FieldType.boolean)) ∈ cw := List.mem_of_getElem? (i := 183) (by rfl)
set_option maxRecDepth 20000 in
theorem k_203 : (Jvm.Cond.methodLink "java/lang/String" (495 : Nat) ({ cls := "java/lang/StringLatin1", name := "charAt", desc := "([BI)C" } : Jvm.MethodName)) ∈ cw := List.mem_of_getElem? (i := 184) (by rfl)
set_option maxRecDepth 20000 in
theorem k_204 : (Jvm.Cond.static ({ cls := "java/lang/StringLatin1", name := "charAt", desc := "([BI)C" } : Jvm.MethodName)) ∈ cw := List.mem_of_getElem? (i := 185) (by rfl)
set_option maxRecDepth 20000 in
theorem k_205 : (Jvm.Cond.code ({ cls := "java/lang/StringLatin1", name := "charAt", desc := "([BI)C" } : Jvm.MethodName) prog_7_method_2_code (2 : Nat) (Option.some Jvm.ClassFile.FieldType.char)) ∈ cw := List.mem_of_getElem? (i := 186) (by rfl)
set_option maxRecDepth 20000 in
theorem k_206 : (Jvm.Cond.methodLink "java/lang/StringLatin1" (9 : Nat) ({ cls := "java/lang/String", name := "checkIndex", desc := "(II)V" } : Jvm.MethodName)) ∈ cw := List.mem_of_getElem? (i := 187) (by rfl)
set_option maxRecDepth 20000 in
theorem k_207 : (Jvm.Cond.static ({ cls := "java/lang/String", name := "checkIndex", desc := "(II)V" } : Jvm.MethodName)) ∈ cw := List.mem_of_getElem? (i := 188) (by rfl)
set_option maxRecDepth 20000 in
theorem k_208 : (Jvm.Cond.code ({ cls := "java/lang/String", name := "checkIndex", desc := "(II)V" } : Jvm.MethodName) prog_6_method_155_code (2 : Nat) (Option.none : Option Jvm.ClassFile.FieldType)) ∈ cw := List.mem_of_getElem? (i := 189) (by rfl)
set_option maxRecDepth 20000 in
theorem k_209 : (Jvm.Cond.fieldLink "java/lang/String" (1053 : Nat) "jdk/internal/util/Preconditions" "SIOOBE_FORMATTER" "Ljava/util/function/BiFunction;") ∈ cw := List.mem_of_getElem? (i := 190) (by rfl)
set_option maxRecDepth 20000 in
theorem k_211 : (Jvm.Cond.methodLink "java/lang/String" (1059 : Nat) ({ cls := "jdk/internal/util/Preconditions", name := "checkIndex", desc := "(IILjava/util/function/BiFunction;)I" } : Jvm.MethodName)) ∈ cw := List.mem_of_getElem? (i := 191) (by rfl)
set_option maxRecDepth 20000 in
theorem k_212 : (Jvm.Cond.static ({ cls := "jdk/internal/util/Preconditions", name := "checkIndex", desc := "(IILjava/util/function/BiFunction;)I" } : Jvm.MethodName)) ∈ cw := List.mem_of_getElem? (i := 192) (by rfl)
set_option maxRecDepth 20000 in
theorem k_213 : (Jvm.Cond.code ({ cls := "jdk/internal/util/Preconditions", name := "checkIndex", desc := "(IILjava/util/function/BiFunction;)I" } : Jvm.MethodName) prog_9_method_11_code (3 : Nat) (Option.some Jvm.ClassFile.FieldType.int)) ∈ cw := List.mem_of_getElem? (i := 193) (by rfl)
set_option maxRecDepth 20000 in
theorem k_233 : (Jvm.Cond.methodLink "BuildDrawer" (142 : Nat) ({ cls := "BuildDrawer", name := "writeSign", desc := "(C)V" } : Jvm.MethodName)) ∈ cw := List.mem_of_getElem? (i := 194) (by rfl)
set_option maxRecDepth 20000 in
theorem k_235 : (Jvm.Cond.instanceMethod ({ cls := "BuildDrawer", name := "writeSign", desc := "(C)V" } : Jvm.MethodName)) ∈ cw := List.mem_of_getElem? (i := 195) (by rfl)
set_option maxRecDepth 20000 in
theorem k_236 : (Jvm.Cond.code ({ cls := "BuildDrawer", name := "writeSign", desc := "(C)V" } : Jvm.MethodName) prog_1_method_25_code (2 : Nat) (Option.none : Option Jvm.ClassFile.FieldType)) ∈ cw := List.mem_of_getElem? (i := 196) (by rfl)
set_option maxRecDepth 20000 in
theorem k_237 : (Jvm.Cond.methodLink "BuildDrawer" (146 : Nat) ({ cls := "BuildDrawer", name := "writeNumber", desc := "(I)V" } : Jvm.MethodName)) ∈ cw := List.mem_of_getElem? (i := 197) (by rfl)
set_option maxRecDepth 20000 in
theorem k_239 : (Jvm.Cond.instanceMethod ({ cls := "BuildDrawer", name := "writeNumber", desc := "(I)V" } : Jvm.MethodName)) ∈ cw := List.mem_of_getElem? (i := 198) (by rfl)
set_option maxRecDepth 20000 in
theorem k_240 : (Jvm.Cond.code ({ cls := "BuildDrawer", name := "writeNumber", desc := "(I)V" } : Jvm.MethodName) prog_1_method_23_code (2 : Nat) (Option.none : Option Jvm.ClassFile.FieldType)) ∈ cw := List.mem_of_getElem? (i := 199) (by rfl)
set_option maxRecDepth 20000 in
theorem k_241 : (Jvm.Cond.methodLink "BuildDrawer" (159 : Nat) ({ cls := "BuildDrawer", name := "writeDigit", desc := "(I)V" } : Jvm.MethodName)) ∈ cw := List.mem_of_getElem? (i := 200) (by rfl)
set_option maxRecDepth 20000 in
theorem k_243 : (Jvm.Cond.instanceMethod ({ cls := "BuildDrawer", name := "writeDigit", desc := "(I)V" } : Jvm.MethodName)) ∈ cw := List.mem_of_getElem? (i := 201) (by rfl)
set_option maxRecDepth 20000 in
theorem k_244 : (Jvm.Cond.code ({ cls := "BuildDrawer", name := "writeDigit", desc := "(I)V" } : Jvm.MethodName) prog_1_method_24_code (2 : Nat) (Option.none : Option Jvm.ClassFile.FieldType)) ∈ cw := List.mem_of_getElem? (i := 202) (by rfl)
set_option maxRecDepth 20000 in
theorem k_245 : (Jvm.Cond.arrayClass Jvm.ClassFile.FieldType.byte) ∈ cw := List.mem_of_getElem? (i := 203) (by rfl)
set_option maxRecDepth 20000 in
theorem k_246 : (Jvm.Cond.methodLink "BuildDrawerLaw" (36 : Nat) ({ cls := "BuildDrawer", name := "verdict", desc := "(IZ)V" } : Jvm.MethodName)) ∈ cw := List.mem_of_getElem? (i := 204) (by rfl)
set_option maxRecDepth 20000 in
theorem k_247 : (Jvm.Cond.instanceMethod ({ cls := "BuildDrawer", name := "verdict", desc := "(IZ)V" } : Jvm.MethodName)) ∈ cw := List.mem_of_getElem? (i := 205) (by rfl)
set_option maxRecDepth 20000 in
theorem k_248 : (Jvm.Cond.selects "BuildDrawer" ({ cls := "BuildDrawer", name := "verdict", desc := "(IZ)V" } : Jvm.MethodName) ({ cls := "BuildDrawer", name := "verdict", desc := "(IZ)V" } : Jvm.MethodName)) ∈ cw := List.mem_of_getElem? (i := 206) (by rfl)
set_option maxRecDepth 20000 in
theorem k_249 : (Jvm.Cond.code ({ cls := "BuildDrawer", name := "verdict", desc := "(IZ)V" } : Jvm.MethodName) prog_1_method_5_code (3 : Nat) (Option.none : Option Jvm.ClassFile.FieldType)) ∈ cw := List.mem_of_getElem? (i := 207) (by rfl)
set_option maxRecDepth 20000 in
theorem k_250 : (Jvm.Cond.methodLink "BuildDrawerLaw" (41 : Nat) ({ cls := "BuildDrawer", name := "shorter", desc := "()I" } : Jvm.MethodName)) ∈ cw := List.mem_of_getElem? (i := 208) (by rfl)
set_option maxRecDepth 20000 in
theorem k_251 : (Jvm.Cond.instanceMethod ({ cls := "BuildDrawer", name := "shorter", desc := "()I" } : Jvm.MethodName)) ∈ cw := List.mem_of_getElem? (i := 209) (by rfl)
set_option maxRecDepth 20000 in
theorem k_252 : (Jvm.Cond.selects "BuildDrawer" ({ cls := "BuildDrawer", name := "shorter", desc := "()I" } : Jvm.MethodName) ({ cls := "BuildDrawer", name := "shorter", desc := "()I" } : Jvm.MethodName)) ∈ cw := List.mem_of_getElem? (i := 210) (by rfl)
set_option maxRecDepth 20000 in
theorem k_253 : (Jvm.Cond.code ({ cls := "BuildDrawer", name := "shorter", desc := "()I" } : Jvm.MethodName) prog_1_method_6_code (1 : Nat) (Option.some Jvm.ClassFile.FieldType.int)) ∈ cw := List.mem_of_getElem? (i := 211) (by rfl)
set_option maxRecDepth 20000 in
theorem k_254 : (Jvm.Cond.methodLink "BuildDrawer" (111 : Nat) ({ cls := "BuildDrawer", name := "marksLeft", desc := "()I" } : Jvm.MethodName)) ∈ cw := List.mem_of_getElem? (i := 212) (by rfl)
set_option maxRecDepth 20000 in
theorem k_256 : (Jvm.Cond.instanceMethod ({ cls := "BuildDrawer", name := "marksLeft", desc := "()I" } : Jvm.MethodName)) ∈ cw := List.mem_of_getElem? (i := 213) (by rfl)
set_option maxRecDepth 20000 in
theorem k_257 : (Jvm.Cond.code ({ cls := "BuildDrawer", name := "marksLeft", desc := "()I" } : Jvm.MethodName) prog_1_method_14_code (3 : Nat) (Option.some Jvm.ClassFile.FieldType.int)) ∈ cw := List.mem_of_getElem? (i := 214) (by rfl)
set_option maxRecDepth 20000 in
theorem k_258 : (Jvm.Cond.methodLink "BuildDrawer" (114 : Nat) ({ cls := "BuildDrawer", name := "holdsOf", desc := "(I)Z" } : Jvm.MethodName)) ∈ cw := List.mem_of_getElem? (i := 215) (by rfl)
set_option maxRecDepth 20000 in
theorem k_260 : (Jvm.Cond.instanceMethod ({ cls := "BuildDrawer", name := "holdsOf", desc := "(I)Z" } : Jvm.MethodName)) ∈ cw := List.mem_of_getElem? (i := 216) (by rfl)
set_option maxRecDepth 20000 in
theorem k_261 : (Jvm.Cond.code ({ cls := "BuildDrawer", name := "holdsOf", desc := "(I)Z" } : Jvm.MethodName) prog_1_method_16_code (3 : Nat) (Option.some Jvm.ClassFile.FieldType.boolean)) ∈ cw := List.mem_of_getElem? (i := 217) (by rfl)
set_option maxRecDepth 20000 in
theorem k_262 : (Jvm.Cond.methodLink "BuildDrawer" (117 : Nat) ({ cls := "BuildDrawer", name := "leaveOutAllThatCanGo", desc := "()V" } : Jvm.MethodName)) ∈ cw := List.mem_of_getElem? (i := 218) (by rfl)
set_option maxRecDepth 20000 in
theorem k_264 : (Jvm.Cond.instanceMethod ({ cls := "BuildDrawer", name := "leaveOutAllThatCanGo", desc := "()V" } : Jvm.MethodName)) ∈ cw := List.mem_of_getElem? (i := 219) (by rfl)
set_option maxRecDepth 20000 in
theorem k_265 : (Jvm.Cond.code ({ cls := "BuildDrawer", name := "leaveOutAllThatCanGo", desc := "()V" } : Jvm.MethodName) prog_1_method_18_code (3 : Nat) (Option.none : Option Jvm.ClassFile.FieldType)) ∈ cw := List.mem_of_getElem? (i := 220) (by rfl)
set_option maxRecDepth 20000 in
theorem k_266 : (Jvm.Cond.methodLink "BuildDrawer" (130 : Nat) ({ cls := "BuildDrawer", name := "leaveOutFromLastToFirst", desc := "()Z" } : Jvm.MethodName)) ∈ cw := List.mem_of_getElem? (i := 221) (by rfl)
set_option maxRecDepth 20000 in
theorem k_268 : (Jvm.Cond.instanceMethod ({ cls := "BuildDrawer", name := "leaveOutFromLastToFirst", desc := "()Z" } : Jvm.MethodName)) ∈ cw := List.mem_of_getElem? (i := 222) (by rfl)
set_option maxRecDepth 20000 in
theorem k_269 : (Jvm.Cond.code ({ cls := "BuildDrawer", name := "leaveOutFromLastToFirst", desc := "()Z" } : Jvm.MethodName) prog_1_method_19_code (3 : Nat) (Option.some Jvm.ClassFile.FieldType.boolean)) ∈ cw := List.mem_of_getElem? (i := 223) (by rfl)
set_option maxRecDepth 20000 in
theorem k_270 : (Jvm.Cond.methodLink "BuildDrawer" (123 : Nat) ({ cls := "BuildDrawer", name := "canGo", desc := "(I)Z" } : Jvm.MethodName)) ∈ cw := List.mem_of_getElem? (i := 224) (by rfl)
set_option maxRecDepth 20000 in
theorem k_272 : (Jvm.Cond.instanceMethod ({ cls := "BuildDrawer", name := "canGo", desc := "(I)Z" } : Jvm.MethodName)) ∈ cw := List.mem_of_getElem? (i := 225) (by rfl)
set_option maxRecDepth 20000 in
theorem k_273 : (Jvm.Cond.code ({ cls := "BuildDrawer", name := "canGo", desc := "(I)Z" } : Jvm.MethodName) prog_1_method_17_code (4 : Nat) (Option.some Jvm.ClassFile.FieldType.boolean)) ∈ cw := List.mem_of_getElem? (i := 226) (by rfl)
set_option maxRecDepth 20000 in
theorem k_274 : (Jvm.Cond.methodLink "BuildDrawer" (120 : Nat) ({ cls := "BuildDrawer", name := "countLeft", desc := "()I" } : Jvm.MethodName)) ∈ cw := List.mem_of_getElem? (i := 227) (by rfl)
set_option maxRecDepth 20000 in
theorem k_276 : (Jvm.Cond.instanceMethod ({ cls := "BuildDrawer", name := "countLeft", desc := "()I" } : Jvm.MethodName)) ∈ cw := List.mem_of_getElem? (i := 228) (by rfl)
set_option maxRecDepth 20000 in
theorem k_277 : (Jvm.Cond.code ({ cls := "BuildDrawer", name := "countLeft", desc := "()I" } : Jvm.MethodName) prog_1_method_13_code (3 : Nat) (Option.some Jvm.ClassFile.FieldType.int)) ∈ cw := List.mem_of_getElem? (i := 229) (by rfl)
set_option maxRecDepth 20000 in
theorem k_278 : (Jvm.Cond.methodLink "BuildDrawerLaw" (46 : Nat) ({ cls := "BuildDrawer", name := "left", desc := "(I)I" } : Jvm.MethodName)) ∈ cw := List.mem_of_getElem? (i := 230) (by rfl)
set_option maxRecDepth 20000 in
theorem k_279 : (Jvm.Cond.instanceMethod ({ cls := "BuildDrawer", name := "left", desc := "(I)I" } : Jvm.MethodName)) ∈ cw := List.mem_of_getElem? (i := 231) (by rfl)
set_option maxRecDepth 20000 in
theorem k_280 : (Jvm.Cond.selects "BuildDrawer" ({ cls := "BuildDrawer", name := "left", desc := "(I)I" } : Jvm.MethodName) ({ cls := "BuildDrawer", name := "left", desc := "(I)I" } : Jvm.MethodName)) ∈ cw := List.mem_of_getElem? (i := 232) (by rfl)
set_option maxRecDepth 20000 in
theorem k_281 : (Jvm.Cond.code ({ cls := "BuildDrawer", name := "left", desc := "(I)I" } : Jvm.MethodName) prog_1_method_7_code (4 : Nat) (Option.some Jvm.ClassFile.FieldType.int)) ∈ cw := List.mem_of_getElem? (i := 233) (by rfl)
set_option maxRecDepth 20000 in
theorem k_282 : (Jvm.Cond.methodLink "BuildDrawerLaw" (50 : Nat) ({ cls := "BuildDrawer", name := "minimal", desc := "()Z" } : Jvm.MethodName)) ∈ cw := List.mem_of_getElem? (i := 234) (by rfl)
set_option maxRecDepth 20000 in
theorem k_283 : (Jvm.Cond.instanceMethod ({ cls := "BuildDrawer", name := "minimal", desc := "()Z" } : Jvm.MethodName)) ∈ cw := List.mem_of_getElem? (i := 235) (by rfl)
set_option maxRecDepth 20000 in
theorem k_284 : (Jvm.Cond.selects "BuildDrawer" ({ cls := "BuildDrawer", name := "minimal", desc := "()Z" } : Jvm.MethodName) ({ cls := "BuildDrawer", name := "minimal", desc := "()Z" } : Jvm.MethodName)) ∈ cw := List.mem_of_getElem? (i := 236) (by rfl)
set_option maxRecDepth 20000 in
theorem k_285 : (Jvm.Cond.code ({ cls := "BuildDrawer", name := "minimal", desc := "()Z" } : Jvm.MethodName) prog_1_method_8_code (2 : Nat) (Option.some Jvm.ClassFile.FieldType.boolean)) ∈ cw := List.mem_of_getElem? (i := 237) (by rfl)
set_option maxRecDepth 20000 in
theorem k_286 : (Jvm.Cond.methodLink "BuildDrawerLaw" (57 : Nat) ({ cls := "BuildDrawer", name := "same", desc := "(JII)Z" } : Jvm.MethodName)) ∈ cw := List.mem_of_getElem? (i := 238) (by rfl)
set_option maxRecDepth 20000 in
theorem k_287 : (Jvm.Cond.instanceMethod ({ cls := "BuildDrawer", name := "same", desc := "(JII)Z" } : Jvm.MethodName)) ∈ cw := List.mem_of_getElem? (i := 239) (by rfl)
set_option maxRecDepth 20000 in
theorem k_288 : (Jvm.Cond.selects "BuildDrawer" ({ cls := "BuildDrawer", name := "same", desc := "(JII)Z" } : Jvm.MethodName) ({ cls := "BuildDrawer", name := "same", desc := "(JII)Z" } : Jvm.MethodName)) ∈ cw := List.mem_of_getElem? (i := 240) (by rfl)
set_option maxRecDepth 20000 in
theorem k_289 : (Jvm.Cond.code ({ cls := "BuildDrawer", name := "same", desc := "(JII)Z" } : Jvm.MethodName) prog_1_method_9_code (6 : Nat) (Option.some Jvm.ClassFile.FieldType.boolean)) ∈ cw := List.mem_of_getElem? (i := 241) (by rfl)
set_option maxRecDepth 20000 in
theorem k_292 : (Jvm.Cond.instanceMethod ({ cls := "BuildDrawer$Drawing", name := "isAtTheLikeOf", desc := "(LBuildDrawer$Drawing;)Z" } : Jvm.MethodName)) ∈ cw := List.mem_of_getElem? (i := 242) (by rfl)
set_option maxRecDepth 20000 in
theorem k_293 : (Jvm.Cond.code ({ cls := "BuildDrawer$Drawing", name := "isAtTheLikeOf", desc := "(LBuildDrawer$Drawing;)Z" } : Jvm.MethodName) prog_2_method_4_code (2 : Nat) (Option.some Jvm.ClassFile.FieldType.boolean)) ∈ cw := List.mem_of_getElem? (i := 243) (by rfl)
set_option maxRecDepth 20000 in
theorem k_294 : (Jvm.Cond.methodLink "BuildDrawerLaw" (9 : Nat) ({ cls := "BuildDrawerLaw", name := "cell", desc := "([II)I" } : Jvm.MethodName)) ∈ cw := List.mem_of_getElem? (i := 244) (by rfl)
set_option maxRecDepth 20000 in
theorem k_295 : (Jvm.Cond.static ({ cls := "BuildDrawerLaw", name := "cell", desc := "([II)I" } : Jvm.MethodName)) ∈ cw := List.mem_of_getElem? (i := 245) (by rfl)
set_option maxRecDepth 20000 in
theorem k_296 : (Jvm.Cond.code ({ cls := "BuildDrawerLaw", name := "cell", desc := "([II)I" } : Jvm.MethodName) method_2_code (2 : Nat) (Option.some Jvm.ClassFile.FieldType.int)) ∈ cw := List.mem_of_getElem? (i := 246) (by rfl)
set_option maxRecDepth 20000 in
theorem k_297 : (Jvm.Cond.classLink "BuildDrawerLaw" (18 : Nat) "BuildDrawerModel") ∈ cw := List.mem_of_getElem? (i := 247) (by rfl)
set_option maxRecDepth 20000 in
theorem k_298 : (Jvm.Cond.instantiable "BuildDrawerModel" (16 : Nat)) ∈ cw := List.mem_of_getElem? (i := 248) (by rfl)
set_option maxRecDepth 20000 in
theorem k_299 : (Jvm.Cond.methodLink "BuildDrawerLaw" (20 : Nat) ({ cls := "BuildDrawerModel", name := "<init>", desc := "(J)V" } : Jvm.MethodName)) ∈ cw := List.mem_of_getElem? (i := 249) (by rfl)
set_option maxRecDepth 20000 in
theorem k_300 : (Jvm.Cond.instanceMethod ({ cls := "BuildDrawerModel", name := "<init>", desc := "(J)V" } : Jvm.MethodName)) ∈ cw := List.mem_of_getElem? (i := 250) (by rfl)
set_option maxRecDepth 20000 in
theorem k_301 : (Jvm.Cond.code ({ cls := "BuildDrawerModel", name := "<init>", desc := "(J)V" } : Jvm.MethodName) prog_4_method_1_code (3 : Nat) (Option.none : Option Jvm.ClassFile.FieldType)) ∈ cw := List.mem_of_getElem? (i := 251) (by rfl)
set_option maxRecDepth 20000 in
theorem k_302 : (Jvm.Cond.methodLink "BuildDrawerModel" (1 : Nat) ({ cls := "java/lang/Object", name := "<init>", desc := "()V" } : Jvm.MethodName)) ∈ cw := List.mem_of_getElem? (i := 252) (by rfl)
set_option maxRecDepth 20000 in
theorem k_303 : (Jvm.Cond.fieldLink "BuildDrawerModel" (37 : Nat) "BuildDrawerModel" "code" "I") ∈ cw := List.mem_of_getElem? (i := 253) (by rfl)
set_option maxRecDepth 20000 in
theorem k_304 : (Jvm.Cond.fieldLink "BuildDrawerModel" (33 : Nat) "BuildDrawerModel" "seed" "J") ∈ cw := List.mem_of_getElem? (i := 254) (by rfl)
set_option maxRecDepth 20000 in
theorem k_305 : (Jvm.Cond.fieldLink "BuildDrawerModel" (41 : Nat) "BuildDrawerModel" "word" "J") ∈ cw := List.mem_of_getElem? (i := 255) (by rfl)
set_option maxRecDepth 20000 in
theorem k_306 : (Jvm.Cond.fieldLink "BuildDrawerModel" (71 : Nat) "BuildDrawerModel" "parts" "I") ∈ cw := List.mem_of_getElem? (i := 256) (by rfl)
set_option maxRecDepth 20000 in
theorem k_307 : (Jvm.Cond.fieldLink "BuildDrawerModel" (74 : Nat) "BuildDrawerModel" "bits" "I") ∈ cw := List.mem_of_getElem? (i := 257) (by rfl)
set_option maxRecDepth 20000 in
theorem k_308 : (Jvm.Cond.fieldLink "BuildDrawerModel" (52 : Nat) "BuildDrawerModel" "planted" "I") ∈ cw := List.mem_of_getElem? (i := 258) (by rfl)
set_option maxRecDepth 20000 in
theorem k_309 : (Jvm.Cond.fieldLink "BuildDrawerModel" (7 : Nat) "BuildDrawerModel" "stays" "Z") ∈ cw := List.mem_of_getElem? (i := 259) (by rfl)
set_option maxRecDepth 20000 in
theorem k_310 : (Jvm.Cond.fieldLink "BuildDrawerModel" (13 : Nat) "BuildDrawerModel" "sort" "[I") ∈ cw := List.mem_of_getElem? (i := 260) (by rfl)
set_option maxRecDepth 20000 in
theorem k_311 : (Jvm.Cond.fieldLink "BuildDrawerModel" (17 : Nat) "BuildDrawerModel" "a" "[I") ∈ cw := List.mem_of_getElem? (i := 261) (by rfl)
set_option maxRecDepth 20000 in
theorem k_312 : (Jvm.Cond.fieldLink "BuildDrawerModel" (20 : Nat) "BuildDrawerModel" "b" "[I") ∈ cw := List.mem_of_getElem? (i := 262) (by rfl)
set_option maxRecDepth 20000 in
theorem k_313 : (Jvm.Cond.fieldLink "BuildDrawerModel" (23 : Nat) "BuildDrawerModel" "need" "[I") ∈ cw := List.mem_of_getElem? (i := 263) (by rfl)
set_option maxRecDepth 20000 in
theorem k_314 : (Jvm.Cond.fieldLink "BuildDrawerModel" (26 : Nat) "BuildDrawerModel" "mark" "[I") ∈ cw := List.mem_of_getElem? (i := 264) (by rfl)
set_option maxRecDepth 20000 in
theorem k_315 : (Jvm.Cond.fieldLink "BuildDrawerModel" (29 : Nat) "BuildDrawerModel" "is" "[Z") ∈ cw := List.mem_of_getElem? (i := 265) (by rfl)
set_option maxRecDepth 20000 in
theorem k_316 : (Jvm.Cond.fieldLink "BuildDrawerModel" (99 : Nat) "BuildDrawerModel" "wanted" "I") ∈ cw := List.mem_of_getElem? (i := 266) (by rfl)
set_option maxRecDepth 20000 in
theorem k_317 : (Jvm.Cond.fieldLink "BuildDrawerModel" (102 : Nat) "BuildDrawerModel" "found" "I") ∈ cw := List.mem_of_getElem? (i := 267) (by rfl)
set_option maxRecDepth 20000 in
theorem k_318 : (Jvm.Cond.fieldLink "BuildDrawerModel" (96 : Nat) "BuildDrawerModel" "seen" "I") ∈ cw := List.mem_of_getElem? (i := 268) (by rfl)
set_option maxRecDepth 20000 in
theorem k_319 : (Jvm.Cond.lays "BuildDrawerModel" "BuildDrawerModel" "code" "I") ∈ cw := List.mem_of_getElem? (i := 269) (by rfl)
set_option maxRecDepth 20000 in
theorem k_321 : (Jvm.Cond.laysFinal "BuildDrawerModel" "BuildDrawerModel" "seed" "J") ∈ cw := List.mem_of_getElem? (i := 270) (by rfl)
set_option maxRecDepth 20000 in
theorem k_323 : (Jvm.Cond.lays "BuildDrawerModel" "BuildDrawerModel" "word" "J") ∈ cw := List.mem_of_getElem? (i := 271) (by rfl)
set_option maxRecDepth 20000 in
theorem k_325 : (Jvm.Cond.lays "BuildDrawerModel" "BuildDrawerModel" "parts" "I") ∈ cw := List.mem_of_getElem? (i := 272) (by rfl)
set_option maxRecDepth 20000 in
theorem k_327 : (Jvm.Cond.lays "BuildDrawerModel" "BuildDrawerModel" "bits" "I") ∈ cw := List.mem_of_getElem? (i := 273) (by rfl)
set_option maxRecDepth 20000 in
theorem k_329 : (Jvm.Cond.lays "BuildDrawerModel" "BuildDrawerModel" "planted" "I") ∈ cw := List.mem_of_getElem? (i := 274) (by rfl)
set_option maxRecDepth 20000 in
theorem k_331 : (Jvm.Cond.lays "BuildDrawerModel" "BuildDrawerModel" "stays" "Z") ∈ cw := List.mem_of_getElem? (i := 275) (by rfl)
set_option maxRecDepth 20000 in
theorem k_333 : (Jvm.Cond.laysFinal "BuildDrawerModel" "BuildDrawerModel" "sort" "[I") ∈ cw := List.mem_of_getElem? (i := 276) (by rfl)
set_option maxRecDepth 20000 in
theorem k_335 : (Jvm.Cond.laysFinal "BuildDrawerModel" "BuildDrawerModel" "a" "[I") ∈ cw := List.mem_of_getElem? (i := 277) (by rfl)
set_option maxRecDepth 20000 in
theorem k_337 : (Jvm.Cond.laysFinal "BuildDrawerModel" "BuildDrawerModel" "b" "[I") ∈ cw := List.mem_of_getElem? (i := 278) (by rfl)
set_option maxRecDepth 20000 in
theorem k_339 : (Jvm.Cond.laysFinal "BuildDrawerModel" "BuildDrawerModel" "need" "[I") ∈ cw := List.mem_of_getElem? (i := 279) (by rfl)
set_option maxRecDepth 20000 in
theorem k_341 : (Jvm.Cond.laysFinal "BuildDrawerModel" "BuildDrawerModel" "mark" "[I") ∈ cw := List.mem_of_getElem? (i := 280) (by rfl)
set_option maxRecDepth 20000 in
theorem k_343 : (Jvm.Cond.laysFinal "BuildDrawerModel" "BuildDrawerModel" "is" "[Z") ∈ cw := List.mem_of_getElem? (i := 281) (by rfl)
set_option maxRecDepth 20000 in
theorem k_345 : (Jvm.Cond.lays "BuildDrawerModel" "BuildDrawerModel" "wanted" "I") ∈ cw := List.mem_of_getElem? (i := 282) (by rfl)
set_option maxRecDepth 20000 in
theorem k_347 : (Jvm.Cond.lays "BuildDrawerModel" "BuildDrawerModel" "found" "I") ∈ cw := List.mem_of_getElem? (i := 283) (by rfl)
set_option maxRecDepth 20000 in
theorem k_349 : (Jvm.Cond.lays "BuildDrawerModel" "BuildDrawerModel" "seen" "I") ∈ cw := List.mem_of_getElem? (i := 284) (by rfl)
set_option maxRecDepth 20000 in
theorem k_352 : (Jvm.Cond.methodLink "BuildDrawerLaw" (25 : Nat) ({ cls := "BuildDrawerModel", name := "draw", desc := "(II)I" } : Jvm.MethodName)) ∈ cw := List.mem_of_getElem? (i := 285) (by rfl)
set_option maxRecDepth 20000 in
theorem k_353 : (Jvm.Cond.instanceMethod ({ cls := "BuildDrawerModel", name := "draw", desc := "(II)I" } : Jvm.MethodName)) ∈ cw := List.mem_of_getElem? (i := 286) (by rfl)
set_option maxRecDepth 20000 in
theorem k_354 : (Jvm.Cond.selects "BuildDrawerModel" ({ cls := "BuildDrawerModel", name := "draw", desc := "(II)I" } : Jvm.MethodName) ({ cls := "BuildDrawerModel", name := "draw", desc := "(II)I" } : Jvm.MethodName)) ∈ cw := List.mem_of_getElem? (i := 287) (by rfl)
set_option maxRecDepth 20000 in
theorem k_355 : (Jvm.Cond.code ({ cls := "BuildDrawerModel", name := "draw", desc := "(II)I" } : Jvm.MethodName) prog_4_method_8_code (4 : Nat) (Option.some Jvm.ClassFile.FieldType.int)) ∈ cw := List.mem_of_getElem? (i := 288) (by rfl)
set_option maxRecDepth 20000 in
theorem k_356 : (Jvm.Cond.methodLink "BuildDrawerModel" (63 : Nat) ({ cls := "BuildDrawerModel", name := "isSuch", desc := "(II)Z" } : Jvm.MethodName)) ∈ cw := List.mem_of_getElem? (i := 289) (by rfl)
set_option maxRecDepth 20000 in
theorem k_357 : (Jvm.Cond.static ({ cls := "BuildDrawerModel", name := "isSuch", desc := "(II)Z" } : Jvm.MethodName)) ∈ cw := List.mem_of_getElem? (i := 290) (by rfl)
set_option maxRecDepth 20000 in
theorem k_358 : (Jvm.Cond.code ({ cls := "BuildDrawerModel", name := "isSuch", desc := "(II)Z" } : Jvm.MethodName) prog_4_method_7_code (2 : Nat) (Option.some Jvm.ClassFile.FieldType.boolean)) ∈ cw := List.mem_of_getElem? (i := 291) (by rfl)
set_option maxRecDepth 20000 in
theorem k_359 : (Jvm.Cond.methodLink "BuildDrawerModel" (67 : Nat) ({ cls := "BuildDrawerModel", name := "fill", desc := "(JIII)V" } : Jvm.MethodName)) ∈ cw := List.mem_of_getElem? (i := 292) (by rfl)
set_option maxRecDepth 20000 in
theorem k_361 : (Jvm.Cond.instanceMethod ({ cls := "BuildDrawerModel", name := "fill", desc := "(JIII)V" } : Jvm.MethodName)) ∈ cw := List.mem_of_getElem? (i := 293) (by rfl)
set_option maxRecDepth 20000 in
theorem k_362 : (Jvm.Cond.code ({ cls := "BuildDrawerModel", name := "fill", desc := "(JIII)V" } : Jvm.MethodName) prog_4_method_6_code (9 : Nat) (Option.none : Option Jvm.ClassFile.FieldType)) ∈ cw := List.mem_of_getElem? (i := 294) (by rfl)
set_option maxRecDepth 20000 in
theorem k_363 : (Jvm.Cond.constantLong "BuildDrawerModel" (55 : Nat) (2862933555777941757 : Int64)) ∈ cw := List.mem_of_getElem? (i := 295) (by rfl)
set_option maxRecDepth 20000 in
theorem k_364 : (Jvm.Cond.methodLink "BuildDrawerModel" (48 : Nat) ({ cls := "BuildDrawerModel", name := "chance", desc := "(I)I" } : Jvm.MethodName)) ∈ cw := List.mem_of_getElem? (i := 296) (by rfl)
set_option maxRecDepth 20000 in
theorem k_366 : (Jvm.Cond.instanceMethod ({ cls := "BuildDrawerModel", name := "chance", desc := "(I)I" } : Jvm.MethodName)) ∈ cw := List.mem_of_getElem? (i := 297) (by rfl)
set_option maxRecDepth 20000 in
theorem k_367 : (Jvm.Cond.code ({ cls := "BuildDrawerModel", name := "chance", desc := "(I)I" } : Jvm.MethodName) prog_4_method_3_code (2 : Nat) (Option.some Jvm.ClassFile.FieldType.int)) ∈ cw := List.mem_of_getElem? (i := 298) (by rfl)
set_option maxRecDepth 20000 in
theorem k_368 : (Jvm.Cond.constantLong "BuildDrawerModel" (44 : Nat) (6364136223846793005 : Int64)) ∈ cw := List.mem_of_getElem? (i := 299) (by rfl)
set_option maxRecDepth 20000 in
theorem k_369 : (Jvm.Cond.constantLong "BuildDrawerModel" (46 : Nat) (1442695040888963407 : Int64)) ∈ cw := List.mem_of_getElem? (i := 300) (by rfl)
set_option maxRecDepth 20000 in
theorem k_370 : (Jvm.Cond.methodLink "BuildDrawerModel" (57 : Nat) ({ cls := "BuildDrawerModel", name := "sortOf", desc := "(I)I" } : Jvm.MethodName)) ∈ cw := List.mem_of_getElem? (i := 301) (by rfl)
set_option maxRecDepth 20000 in
theorem k_371 : (Jvm.Cond.static ({ cls := "BuildDrawerModel", name := "sortOf", desc := "(I)I" } : Jvm.MethodName)) ∈ cw := List.mem_of_getElem? (i := 302) (by rfl)
set_option maxRecDepth 20000 in
theorem k_372 : (Jvm.Cond.code ({ cls := "BuildDrawerModel", name := "sortOf", desc := "(I)I" } : Jvm.MethodName) prog_4_method_4_code (1 : Nat) (Option.some Jvm.ClassFile.FieldType.int)) ∈ cw := List.mem_of_getElem? (i := 303) (by rfl)
set_option maxRecDepth 20000 in
theorem k_373 : (Jvm.Cond.methodLink "BuildDrawerModel" (60 : Nat) ({ cls := "BuildDrawerModel", name := "drawB", desc := "(I)I" } : Jvm.MethodName)) ∈ cw := List.mem_of_getElem? (i := 304) (by rfl)
set_option maxRecDepth 20000 in
theorem k_375 : (Jvm.Cond.instanceMethod ({ cls := "BuildDrawerModel", name := "drawB", desc := "(I)I" } : Jvm.MethodName)) ∈ cw := List.mem_of_getElem? (i := 305) (by rfl)
set_option maxRecDepth 20000 in
theorem k_376 : (Jvm.Cond.code ({ cls := "BuildDrawerModel", name := "drawB", desc := "(I)I" } : Jvm.MethodName) prog_4_method_5_code (3 : Nat) (Option.some Jvm.ClassFile.FieldType.int)) ∈ cw := List.mem_of_getElem? (i := 306) (by rfl)
set_option maxRecDepth 20000 in
theorem k_377 : (Jvm.Cond.methodLink "BuildDrawerLaw" (61 : Nat) ({ cls := "BuildDrawerModel", name := "same", desc := "(JII)Z" } : Jvm.MethodName)) ∈ cw := List.mem_of_getElem? (i := 307) (by rfl)
set_option maxRecDepth 20000 in
theorem k_378 : (Jvm.Cond.instanceMethod ({ cls := "BuildDrawerModel", name := "same", desc := "(JII)Z" } : Jvm.MethodName)) ∈ cw := List.mem_of_getElem? (i := 308) (by rfl)
set_option maxRecDepth 20000 in
theorem k_379 : (Jvm.Cond.selects "BuildDrawerModel" ({ cls := "BuildDrawerModel", name := "same", desc := "(JII)Z" } : Jvm.MethodName) ({ cls := "BuildDrawerModel", name := "same", desc := "(JII)Z" } : Jvm.MethodName)) ∈ cw := List.mem_of_getElem? (i := 309) (by rfl)
set_option maxRecDepth 20000 in
theorem k_380 : (Jvm.Cond.code ({ cls := "BuildDrawerModel", name := "same", desc := "(JII)Z" } : Jvm.MethodName) prog_4_method_9_code (12 : Nat) (Option.some Jvm.ClassFile.FieldType.boolean)) ∈ cw := List.mem_of_getElem? (i := 310) (by rfl)
set_option maxRecDepth 20000 in
theorem k_381 : (Jvm.Cond.methodLink "BuildDrawerLaw" (40 : Nat) ({ cls := "BuildDrawerModel", name := "verdict", desc := "(IZ)V" } : Jvm.MethodName)) ∈ cw := List.mem_of_getElem? (i := 311) (by rfl)
set_option maxRecDepth 20000 in
theorem k_382 : (Jvm.Cond.instanceMethod ({ cls := "BuildDrawerModel", name := "verdict", desc := "(IZ)V" } : Jvm.MethodName)) ∈ cw := List.mem_of_getElem? (i := 312) (by rfl)
set_option maxRecDepth 20000 in
theorem k_383 : (Jvm.Cond.selects "BuildDrawerModel" ({ cls := "BuildDrawerModel", name := "verdict", desc := "(IZ)V" } : Jvm.MethodName) ({ cls := "BuildDrawerModel", name := "verdict", desc := "(IZ)V" } : Jvm.MethodName)) ∈ cw := List.mem_of_getElem? (i := 313) (by rfl)
set_option maxRecDepth 20000 in
theorem k_384 : (Jvm.Cond.code ({ cls := "BuildDrawerModel", name := "verdict", desc := "(IZ)V" } : Jvm.MethodName) prog_4_method_10_code (3 : Nat) (Option.none : Option Jvm.ClassFile.FieldType)) ∈ cw := List.mem_of_getElem? (i := 314) (by rfl)
set_option maxRecDepth 20000 in
theorem k_385 : (Jvm.Cond.methodLink "BuildDrawerLaw" (45 : Nat) ({ cls := "BuildDrawerModel", name := "shorter", desc := "()I" } : Jvm.MethodName)) ∈ cw := List.mem_of_getElem? (i := 315) (by rfl)
set_option maxRecDepth 20000 in
theorem k_386 : (Jvm.Cond.instanceMethod ({ cls := "BuildDrawerModel", name := "shorter", desc := "()I" } : Jvm.MethodName)) ∈ cw := List.mem_of_getElem? (i := 316) (by rfl)
set_option maxRecDepth 20000 in
theorem k_387 : (Jvm.Cond.selects "BuildDrawerModel" ({ cls := "BuildDrawerModel", name := "shorter", desc := "()I" } : Jvm.MethodName) ({ cls := "BuildDrawerModel", name := "shorter", desc := "()I" } : Jvm.MethodName)) ∈ cw := List.mem_of_getElem? (i := 317) (by rfl)
set_option maxRecDepth 20000 in
theorem k_388 : (Jvm.Cond.code ({ cls := "BuildDrawerModel", name := "shorter", desc := "()I" } : Jvm.MethodName) prog_4_method_14_code (3 : Nat) (Option.some Jvm.ClassFile.FieldType.int)) ∈ cw := List.mem_of_getElem? (i := 318) (by rfl)
set_option maxRecDepth 20000 in
theorem k_389 : (Jvm.Cond.methodLink "BuildDrawerModel" (77 : Nat) ({ cls := "BuildDrawerModel", name := "holds", desc := "(I)Z" } : Jvm.MethodName)) ∈ cw := List.mem_of_getElem? (i := 319) (by rfl)
set_option maxRecDepth 20000 in
theorem k_391 : (Jvm.Cond.instanceMethod ({ cls := "BuildDrawerModel", name := "holds", desc := "(I)Z" } : Jvm.MethodName)) ∈ cw := List.mem_of_getElem? (i := 320) (by rfl)
set_option maxRecDepth 20000 in
theorem k_392 : (Jvm.Cond.code ({ cls := "BuildDrawerModel", name := "holds", desc := "(I)Z" } : Jvm.MethodName) prog_4_method_11_code (4 : Nat) (Option.some Jvm.ClassFile.FieldType.boolean)) ∈ cw := List.mem_of_getElem? (i := 321) (by rfl)
set_option maxRecDepth 20000 in
theorem k_393 : (Jvm.Cond.methodLink "BuildDrawerModel" (81 : Nat) ({ cls := "BuildDrawerModel", name := "canGo", desc := "(I)Z" } : Jvm.MethodName)) ∈ cw := List.mem_of_getElem? (i := 322) (by rfl)
set_option maxRecDepth 20000 in
theorem k_395 : (Jvm.Cond.instanceMethod ({ cls := "BuildDrawerModel", name := "canGo", desc := "(I)Z" } : Jvm.MethodName)) ∈ cw := List.mem_of_getElem? (i := 323) (by rfl)
set_option maxRecDepth 20000 in
theorem k_396 : (Jvm.Cond.code ({ cls := "BuildDrawerModel", name := "canGo", desc := "(I)Z" } : Jvm.MethodName) prog_4_method_12_code (3 : Nat) (Option.some Jvm.ClassFile.FieldType.boolean)) ∈ cw := List.mem_of_getElem? (i := 324) (by rfl)
set_option maxRecDepth 20000 in
theorem k_397 : (Jvm.Cond.methodLink "BuildDrawerModel" (84 : Nat) ({ cls := "BuildDrawerModel", name := "count", desc := "()I" } : Jvm.MethodName)) ∈ cw := List.mem_of_getElem? (i := 325) (by rfl)
set_option maxRecDepth 20000 in
theorem k_399 : (Jvm.Cond.instanceMethod ({ cls := "BuildDrawerModel", name := "count", desc := "()I" } : Jvm.MethodName)) ∈ cw := List.mem_of_getElem? (i := 326) (by rfl)
set_option maxRecDepth 20000 in
theorem k_400 : (Jvm.Cond.code ({ cls := "BuildDrawerModel", name := "count", desc := "()I" } : Jvm.MethodName) prog_4_method_13_code (3 : Nat) (Option.some Jvm.ClassFile.FieldType.int)) ∈ cw := List.mem_of_getElem? (i := 327) (by rfl)
set_option maxRecDepth 20000 in
theorem k_401 : (Jvm.Cond.methodLink "BuildDrawerLaw" (54 : Nat) ({ cls := "BuildDrawerModel", name := "minimal", desc := "()Z" } : Jvm.MethodName)) ∈ cw := List.mem_of_getElem? (i := 328) (by rfl)
set_option maxRecDepth 20000 in
theorem k_402 : (Jvm.Cond.instanceMethod ({ cls := "BuildDrawerModel", name := "minimal", desc := "()Z" } : Jvm.MethodName)) ∈ cw := List.mem_of_getElem? (i := 329) (by rfl)
set_option maxRecDepth 20000 in
theorem k_403 : (Jvm.Cond.selects "BuildDrawerModel" ({ cls := "BuildDrawerModel", name := "minimal", desc := "()Z" } : Jvm.MethodName) ({ cls := "BuildDrawerModel", name := "minimal", desc := "()Z" } : Jvm.MethodName)) ∈ cw := List.mem_of_getElem? (i := 330) (by rfl)
set_option maxRecDepth 20000 in
theorem k_404 : (Jvm.Cond.code ({ cls := "BuildDrawerModel", name := "minimal", desc := "()Z" } : Jvm.MethodName) prog_4_method_15_code (3 : Nat) (Option.some Jvm.ClassFile.FieldType.boolean)) ∈ cw := List.mem_of_getElem? (i := 331) (by rfl)
set_option maxRecDepth 20000 in
theorem k_405 : (Jvm.Cond.methodLink "BuildDrawerLaw" (49 : Nat) ({ cls := "BuildDrawerModel", name := "left", desc := "(I)I" } : Jvm.MethodName)) ∈ cw := List.mem_of_getElem? (i := 332) (by rfl)
set_option maxRecDepth 20000 in
theorem k_406 : (Jvm.Cond.instanceMethod ({ cls := "BuildDrawerModel", name := "left", desc := "(I)I" } : Jvm.MethodName)) ∈ cw := List.mem_of_getElem? (i := 333) (by rfl)
set_option maxRecDepth 20000 in
theorem k_407 : (Jvm.Cond.selects "BuildDrawerModel" ({ cls := "BuildDrawerModel", name := "left", desc := "(I)I" } : Jvm.MethodName) ({ cls := "BuildDrawerModel", name := "left", desc := "(I)I" } : Jvm.MethodName)) ∈ cw := List.mem_of_getElem? (i := 334) (by rfl)
set_option maxRecDepth 20000 in
theorem k_408 : (Jvm.Cond.code ({ cls := "BuildDrawerModel", name := "left", desc := "(I)I" } : Jvm.MethodName) prog_4_method_16_code (4 : Nat) (Option.some Jvm.ClassFile.FieldType.int)) ∈ cw := List.mem_of_getElem? (i := 335) (by rfl)
set_option maxRecDepth 20000 in
theorem k_409 : (Jvm.Cond.methodLink "BuildDrawerLaw" (30 : Nat) ({ cls := "BuildDrawerModel", name := "part", desc := "(II)J" } : Jvm.MethodName)) ∈ cw := List.mem_of_getElem? (i := 336) (by rfl)
set_option maxRecDepth 20000 in
theorem k_410 : (Jvm.Cond.instanceMethod ({ cls := "BuildDrawerModel", name := "part", desc := "(II)J" } : Jvm.MethodName)) ∈ cw := List.mem_of_getElem? (i := 337) (by rfl)
set_option maxRecDepth 20000 in
theorem k_411 : (Jvm.Cond.selects "BuildDrawerModel" ({ cls := "BuildDrawerModel", name := "part", desc := "(II)J" } : Jvm.MethodName) ({ cls := "BuildDrawerModel", name := "part", desc := "(II)J" } : Jvm.MethodName)) ∈ cw := List.mem_of_getElem? (i := 338) (by rfl)
set_option maxRecDepth 20000 in
theorem k_412 : (Jvm.Cond.code ({ cls := "BuildDrawerModel", name := "part", desc := "(II)J" } : Jvm.MethodName) prog_4_method_17_code (3 : Nat) (Option.some Jvm.ClassFile.FieldType.long)) ∈ cw := List.mem_of_getElem? (i := 339) (by rfl)
set_option maxRecDepth 20000 in
theorem k_413 : (Jvm.Cond.constantLong "BuildDrawerModel" (88 : Nat) (-1 : Int64)) ∈ cw := List.mem_of_getElem? (i := 340) (by rfl)
set_option maxRecDepth 20000 in
theorem k_414 : (Jvm.Cond.methodLink "BuildDrawerModel" (90 : Nat) ({ cls := "BuildDrawerModel", name := "shared", desc := "()J" } : Jvm.MethodName)) ∈ cw := List.mem_of_getElem? (i := 341) (by rfl)
set_option maxRecDepth 20000 in
theorem k_416 : (Jvm.Cond.instanceMethod ({ cls := "BuildDrawerModel", name := "shared", desc := "()J" } : Jvm.MethodName)) ∈ cw := List.mem_of_getElem? (i := 342) (by rfl)
set_option maxRecDepth 20000 in
theorem k_417 : (Jvm.Cond.code ({ cls := "BuildDrawerModel", name := "shared", desc := "()J" } : Jvm.MethodName) prog_4_method_18_code (4 : Nat) (Option.some Jvm.ClassFile.FieldType.long)) ∈ cw := List.mem_of_getElem? (i := 343) (by rfl)
set_option maxRecDepth 20000 in
theorem k_418 : (Jvm.Cond.constantLong "BuildDrawerModel" (94 : Nat) (-2 : Int64)) ∈ cw := List.mem_of_getElem? (i := 344) (by rfl)
set_option maxRecDepth 20000 in
theorem k_419 : (Jvm.Cond.methodLink "BuildDrawerLaw" (35 : Nat) ({ cls := "BuildDrawerModel", name := "letter", desc := "(I)I" } : Jvm.MethodName)) ∈ cw := List.mem_of_getElem? (i := 345) (by rfl)
set_option maxRecDepth 20000 in
theorem k_420 : (Jvm.Cond.instanceMethod ({ cls := "BuildDrawerModel", name := "letter", desc := "(I)I" } : Jvm.MethodName)) ∈ cw := List.mem_of_getElem? (i := 346) (by rfl)
set_option maxRecDepth 20000 in
theorem k_421 : (Jvm.Cond.selects "BuildDrawerModel" ({ cls := "BuildDrawerModel", name := "letter", desc := "(I)I" } : Jvm.MethodName) ({ cls := "BuildDrawerModel", name := "letter", desc := "(I)I" } : Jvm.MethodName)) ∈ cw := List.mem_of_getElem? (i := 347) (by rfl)
set_option maxRecDepth 20000 in
theorem k_422 : (Jvm.Cond.code ({ cls := "BuildDrawerModel", name := "letter", desc := "(I)I" } : Jvm.MethodName) prog_4_method_22_code (3 : Nat) (Option.some Jvm.ClassFile.FieldType.int)) ∈ cw := List.mem_of_getElem? (i := 348) (by rfl)
set_option maxRecDepth 20000 in
theorem k_423 : (Jvm.Cond.methodLink "BuildDrawerModel" (109 : Nat) ({ cls := "BuildDrawerModel", name := "letterOf", desc := "(I)I" } : Jvm.MethodName)) ∈ cw := List.mem_of_getElem? (i := 349) (by rfl)
set_option maxRecDepth 20000 in
theorem k_424 : (Jvm.Cond.static ({ cls := "BuildDrawerModel", name := "letterOf", desc := "(I)I" } : Jvm.MethodName)) ∈ cw := List.mem_of_getElem? (i := 350) (by rfl)
set_option maxRecDepth 20000 in
theorem k_425 : (Jvm.Cond.code ({ cls := "BuildDrawerModel", name := "letterOf", desc := "(I)I" } : Jvm.MethodName) prog_4_method_21_code (1 : Nat) (Option.some Jvm.ClassFile.FieldType.int)) ∈ cw := List.mem_of_getElem? (i := 351) (by rfl)
set_option maxRecDepth 20000 in
theorem k_426 : (Jvm.Cond.methodLink "BuildDrawerModel" (105 : Nat) ({ cls := "BuildDrawerModel", name := "say", desc := "(I)V" } : Jvm.MethodName)) ∈ cw := List.mem_of_getElem? (i := 352) (by rfl)
set_option maxRecDepth 20000 in
theorem k_428 : (Jvm.Cond.instanceMethod ({ cls := "BuildDrawerModel", name := "say", desc := "(I)V" } : Jvm.MethodName)) ∈ cw := List.mem_of_getElem? (i := 353) (by rfl)
set_option maxRecDepth 20000 in
theorem k_429 : (Jvm.Cond.code ({ cls := "BuildDrawerModel", name := "say", desc := "(I)V" } : Jvm.MethodName) prog_4_method_19_code (2 : Nat) (Option.none : Option Jvm.ClassFile.FieldType)) ∈ cw := List.mem_of_getElem? (i := 354) (by rfl)
set_option maxRecDepth 20000 in
theorem k_430 : (Jvm.Cond.methodLink "BuildDrawerModel" (112 : Nat) ({ cls := "BuildDrawerModel", name := "sayNumber", desc := "(I)V" } : Jvm.MethodName)) ∈ cw := List.mem_of_getElem? (i := 355) (by rfl)
set_option maxRecDepth 20000 in
theorem k_432 : (Jvm.Cond.instanceMethod ({ cls := "BuildDrawerModel", name := "sayNumber", desc := "(I)V" } : Jvm.MethodName)) ∈ cw := List.mem_of_getElem? (i := 356) (by rfl)
set_option maxRecDepth 20000 in
theorem k_433 : (Jvm.Cond.code ({ cls := "BuildDrawerModel", name := "sayNumber", desc := "(I)V" } : Jvm.MethodName) prog_4_method_20_code (3 : Nat) (Option.none : Option Jvm.ClassFile.FieldType)) ∈ cw := List.mem_of_getElem? (i := 357) (by rfl)
set_option maxRecDepth 20000 in
theorem k_434 : (Jvm.Cond.constantLong "BuildDrawerLaw" (55 : Nat) (4294967295 : Int64)) ∈ cw := List.mem_of_getElem? (i := 358) (by rfl)
set_option maxRecDepth 20000 in
theorem k_435 : (Jvm.Cond.fieldLink "java/lang/String" (9 : Nat) "java/lang/String" "value" "[B") ∈ cw := List.mem_of_getElem? (i := 359) (by rfl)
set_option maxRecDepth 20000 in
theorem k_436 : (Jvm.Cond.fieldLink "java/lang/String" (15 : Nat) "java/lang/String" "coder" "B") ∈ cw := List.mem_of_getElem? (i := 360) (by rfl)
end
section
def TD : u_T := fun k => match k with
  | 0 => ("BuildDrawer$Drawing", "word", "J", false)
  | 1 => ("BuildDrawer$Drawing", "sortOfKind", "I", false)
  | 2 => ("BuildDrawer$Drawing", "plantedBit", "I", false)
  | 3 => ("BuildDrawer$Drawing", "number", "I", false)
  | 4 => ("BuildDrawer$Drawing", "sort", "I", false)
  | 5 => ("BuildDrawer$Drawing", "a", "I", false)
  | 6 => ("BuildDrawer$Drawing", "b", "I", false)
  | 7 => ("BuildDrawer$Drawing", "need", "I", false)
  | _ => ("BuildDrawer$Drawing", "mark", "I", false)
def tyD : Nat → FieldType := fun k => match k with
  | 0 => .long
  | 1 => .int
  | 2 => .int
  | 3 => .int
  | 4 => .int
  | 5 => .int
  | 6 => .int
  | 7 => .int
  | _ => .int
theorem nmD : ∀ a, a < 9 → ∀ b, b < 9 → a ≠ b → (TD a).2.1 ≠ (TD b).2.1 := by decide +kernel
theorem tyD_ok : ∀ k, k < 9 → parseFieldDescriptor (TD k).2.2.1 = some (tyD k) := by decide +kernel
set_option maxRecDepth 20000 in
theorem inD : ∀ w ∈ u_ws "BuildDrawer$Drawing" TD 9, w ∈ cw := by decide +kernel
def TB : u_T := fun k => match k with
  | 0 => ("BuildDrawer", "seed", "J", true)
  | 1 => ("BuildDrawer", "mine", "LBuildDrawer$Drawing;", true)
  | 2 => ("BuildDrawer", "others", "LBuildDrawer$Drawing;", true)
  | 3 => ("BuildDrawer", "count", "I", false)
  | 4 => ("BuildDrawer", "sorts", "[I", true)
  | 5 => ("BuildDrawer", "as", "[I", true)
  | 6 => ("BuildDrawer", "bs", "[I", true)
  | 7 => ("BuildDrawer", "needs", "[I", true)
  | 8 => ("BuildDrawer", "marks", "[I", true)
  | 9 => ("BuildDrawer", "isLeft", "[Z", true)
  | 10 => ("BuildDrawer", "verdictBits", "I", false)
  | 11 => ("BuildDrawer", "verdictStays", "Z", false)
  | 12 => ("BuildDrawer", "text", "[C", true)
  | _ => ("BuildDrawer", "textLength", "I", false)
def tyB : Nat → FieldType := fun k => match k with
  | 0 => .long
  | 1 => .object "BuildDrawer$Drawing"
  | 2 => .object "BuildDrawer$Drawing"
  | 3 => .int
  | 4 => .array .int
  | 5 => .array .int
  | 6 => .array .int
  | 7 => .array .int
  | 8 => .array .int
  | 9 => .array .boolean
  | 10 => .int
  | 11 => .boolean
  | 12 => .array .char
  | _ => .int
theorem nmB : ∀ a, a < 14 → ∀ b, b < 14 → a ≠ b → (TB a).2.1 ≠ (TB b).2.1 := by decide +kernel
theorem tyB_ok : ∀ k, k < 14 → parseFieldDescriptor (TB k).2.2.1 = some (tyB k) := by decide +kernel
set_option maxRecDepth 20000 in
theorem inB : ∀ w ∈ u_ws "BuildDrawer" TB 14, w ∈ cw := by decide +kernel
def TM : u_T := fun k => match k with
  | 0 => ("BuildDrawerModel", "code", "I", false)
  | 1 => ("BuildDrawerModel", "seed", "J", true)
  | 2 => ("BuildDrawerModel", "word", "J", false)
  | 3 => ("BuildDrawerModel", "parts", "I", false)
  | 4 => ("BuildDrawerModel", "bits", "I", false)
  | 5 => ("BuildDrawerModel", "planted", "I", false)
  | 6 => ("BuildDrawerModel", "stays", "Z", false)
  | 7 => ("BuildDrawerModel", "sort", "[I", true)
  | 8 => ("BuildDrawerModel", "a", "[I", true)
  | 9 => ("BuildDrawerModel", "b", "[I", true)
  | 10 => ("BuildDrawerModel", "need", "[I", true)
  | 11 => ("BuildDrawerModel", "mark", "[I", true)
  | 12 => ("BuildDrawerModel", "is", "[Z", true)
  | 13 => ("BuildDrawerModel", "wanted", "I", false)
  | 14 => ("BuildDrawerModel", "found", "I", false)
  | _ => ("BuildDrawerModel", "seen", "I", false)
def tyM : Nat → FieldType := fun k => match k with
  | 0 => .int
  | 1 => .long
  | 2 => .long
  | 3 => .int
  | 4 => .int
  | 5 => .int
  | 6 => .boolean
  | 7 => .array .int
  | 8 => .array .int
  | 9 => .array .int
  | 10 => .array .int
  | 11 => .array .int
  | 12 => .array .boolean
  | 13 => .int
  | 14 => .int
  | _ => .int
theorem nmM : ∀ a, a < 16 → ∀ b, b < 16 → a ≠ b → (TM a).2.1 ≠ (TM b).2.1 := by decide +kernel
theorem tyM_ok : ∀ k, k < 16 → parseFieldDescriptor (TM k).2.2.1 = some (tyM k) := by decide +kernel
set_option maxRecDepth 20000 in
theorem inM : ∀ w ∈ u_ws "BuildDrawerModel" TM 16, w ∈ cw := by decide +kernel
abbrev vwCl : List vw_C := [("BuildDrawer$Drawing", TD, 9), ("BuildDrawer", TB, 14), ("BuildDrawerModel", TM, 16)]
abbrev y_B_init : MethodName := ⟨"BuildDrawer", "<init>", "(J)V"⟩
abbrev w_B_init : List Cond := .code y_B_init prog_1_method_1_code 3 none :: cw
abbrev y_O_init : MethodName := ⟨"java/lang/Object", "<init>", "()V"⟩
abbrev w_O_init : List Cond := .code y_O_init object_method_1_code 1 none :: cw
abbrev y_D_init : MethodName := ⟨"BuildDrawer$Drawing", "<init>", "()V"⟩
abbrev w_D_init : List Cond := .code y_D_init prog_2_method_1_code 1 none :: cw
abbrev y_B_draw : MethodName := ⟨"BuildDrawer", "draw", "(II)I"⟩
abbrev w_B_draw : List Cond := .code y_B_draw prog_1_method_2_code 4 (some .int) :: cw
abbrev y_B_canBeDrawn : MethodName := ⟨"BuildDrawer", "canBeDrawn", "(II)Z"⟩
abbrev w_B_canBeDrawn : List Cond := .code y_B_canBeDrawn prog_1_method_10_code 2 (some .boolean) :: cw
abbrev y_D_begin : MethodName := ⟨"BuildDrawer$Drawing", "begin", "(JII)V"⟩
abbrev w_D_begin : List Cond := .code y_D_begin prog_2_method_2_code 5 none :: cw
abbrev y_D_chance : MethodName := ⟨"BuildDrawer$Drawing", "chance", "(I)I"⟩
abbrev w_D_chance : List Cond := .code y_D_chance prog_2_method_10_code 3 (some .int) :: cw
abbrev y_D_bitOrNone : MethodName := ⟨"BuildDrawer$Drawing", "bitOrNone", "(I)I"⟩
abbrev w_D_bitOrNone : List Cond := .code y_D_bitOrNone prog_2_method_5_code 1 (some .int) :: cw
abbrev y_D_next : MethodName := ⟨"BuildDrawer$Drawing", "next", "()V"⟩
abbrev w_D_next : List Cond := .code y_D_next prog_2_method_3_code 1 none :: cw
abbrev y_D_nextSort : MethodName := ⟨"BuildDrawer$Drawing", "nextSort", "()I"⟩
abbrev w_D_nextSort : List Cond := .code y_D_nextSort prog_2_method_6_code 1 (some .int) :: cw
abbrev y_D_nextB : MethodName := ⟨"BuildDrawer$Drawing", "nextB", "()I"⟩
abbrev w_D_nextB : List Cond := .code y_D_nextB prog_2_method_7_code 1 (some .int) :: cw
abbrev y_D_nextBOfStep : MethodName := ⟨"BuildDrawer$Drawing", "nextBOfStep", "()I"⟩
abbrev w_D_nextBOfStep : List Cond := .code y_D_nextBOfStep prog_2_method_8_code 2 (some .int) :: cw
abbrev y_D_nextNeed : MethodName := ⟨"BuildDrawer$Drawing", "nextNeed", "()I"⟩
abbrev w_D_nextNeed : List Cond := .code y_D_nextNeed prog_2_method_9_code 2 (some .int) :: cw
abbrev y_B_takeAllBack : MethodName := ⟨"BuildDrawer", "takeAllBack", "()V"⟩
abbrev w_B_takeAllBack : List Cond := .code y_B_takeAllBack prog_1_method_12_code 2 none :: cw
abbrev y_B_part : MethodName := ⟨"BuildDrawer", "part", "(II)J"⟩
abbrev w_B_part : List Cond := .code y_B_part prog_1_method_3_code 3 (some .long) :: cw
abbrev y_B_isPart : MethodName := ⟨"BuildDrawer", "isPart", "(I)Z"⟩
abbrev w_B_isPart : List Cond := .code y_B_isPart prog_1_method_11_code 2 (some .boolean) :: cw
abbrev y_B_commonSet : MethodName := ⟨"BuildDrawer", "commonSet", "()I"⟩
abbrev w_B_commonSet : List Cond := .code y_B_commonSet prog_1_method_15_code 3 (some .int) :: cw
abbrev y_I_bitCount : MethodName := ⟨"java/lang/Integer", "bitCount", "(I)I"⟩
abbrev w_I_bitCount : List Cond := .code y_I_bitCount prog_5_method_49_code 1 (some .int) :: cw
abbrev y_B_letter : MethodName := ⟨"BuildDrawer", "letter", "(I)I"⟩
abbrev w_B_letter : List Cond := .code y_B_letter prog_1_method_4_code 2 (some .int) :: cw
abbrev y_B_writeText : MethodName := ⟨"BuildDrawer", "writeText", "()V"⟩
abbrev w_B_writeText : List Cond := .code y_B_writeText prog_1_method_20_code 2 none :: cw
abbrev y_B_writePart : MethodName := ⟨"BuildDrawer", "writePart", "(I)V"⟩
abbrev w_B_writePart : List Cond := .code y_B_writePart prog_1_method_21_code 2 none :: cw
abbrev y_B_letterOf : MethodName := ⟨"BuildDrawer", "letterOf", "(I)C"⟩
abbrev w_B_letterOf : List Cond := .code y_B_letterOf prog_1_method_22_code 1 (some .char) :: cw
abbrev y_S_length : MethodName := ⟨"java/lang/String", "length", "()I"⟩
abbrev w_S_length : List Cond := .code y_S_length prog_6_method_54_code 1 (some .int) :: cw
abbrev y_S_coder : MethodName := ⟨"java/lang/String", "coder", "()B"⟩
abbrev w_S_coder : List Cond := .code y_S_coder prog_6_method_152_code 1 (some .byte) :: cw
abbrev y_S_charAt : MethodName := ⟨"java/lang/String", "charAt", "(I)C"⟩
abbrev w_S_charAt : List Cond := .code y_S_charAt prog_6_method_56_code 2 (some .char) :: cw
abbrev y_S_isLatin1 : MethodName := ⟨"java/lang/String", "isLatin1", "()Z"⟩
abbrev w_S_isLatin1 : List Cond := .code y_S_isLatin1 prog_6_method_154_code 1 (some .boolean) :: cw
abbrev y_S1_charAt : MethodName := ⟨"java/lang/StringLatin1", "charAt", "([BI)C"⟩
abbrev w_S1_charAt : List Cond := .code y_S1_charAt prog_7_method_2_code 2 (some .char) :: cw
abbrev y_S_checkIndex : MethodName := ⟨"java/lang/String", "checkIndex", "(II)V"⟩
abbrev w_S_checkIndex : List Cond := .code y_S_checkIndex prog_6_method_155_code 2 none :: cw
abbrev y_P_checkIndex : MethodName := ⟨"jdk/internal/util/Preconditions", "checkIndex", "(IILjava/util/function/BiFunction;)I"⟩
abbrev w_P_checkIndex : List Cond := .code y_P_checkIndex prog_9_method_11_code 3 (some .int) :: cw
abbrev y_B_writeSign : MethodName := ⟨"BuildDrawer", "writeSign", "(C)V"⟩
abbrev w_B_writeSign : List Cond := .code y_B_writeSign prog_1_method_25_code 2 none :: cw
abbrev y_B_writeNumber : MethodName := ⟨"BuildDrawer", "writeNumber", "(I)V"⟩
abbrev w_B_writeNumber : List Cond := .code y_B_writeNumber prog_1_method_23_code 2 none :: cw
abbrev y_B_writeDigit : MethodName := ⟨"BuildDrawer", "writeDigit", "(I)V"⟩
abbrev w_B_writeDigit : List Cond := .code y_B_writeDigit prog_1_method_24_code 2 none :: cw
abbrev y_B_verdict : MethodName := ⟨"BuildDrawer", "verdict", "(IZ)V"⟩
abbrev w_B_verdict : List Cond := .code y_B_verdict prog_1_method_5_code 3 none :: cw
abbrev y_B_shorter : MethodName := ⟨"BuildDrawer", "shorter", "()I"⟩
abbrev w_B_shorter : List Cond := .code y_B_shorter prog_1_method_6_code 1 (some .int) :: cw
abbrev y_B_marksLeft : MethodName := ⟨"BuildDrawer", "marksLeft", "()I"⟩
abbrev w_B_marksLeft : List Cond := .code y_B_marksLeft prog_1_method_14_code 3 (some .int) :: cw
abbrev y_B_holdsOf : MethodName := ⟨"BuildDrawer", "holdsOf", "(I)Z"⟩
abbrev w_B_holdsOf : List Cond := .code y_B_holdsOf prog_1_method_16_code 3 (some .boolean) :: cw
abbrev y_B_leaveOutAllThatCanGo : MethodName := ⟨"BuildDrawer", "leaveOutAllThatCanGo", "()V"⟩
abbrev w_B_leaveOutAllThatCanGo : List Cond := .code y_B_leaveOutAllThatCanGo prog_1_method_18_code 3 none :: cw
abbrev y_B_leaveOutFromLastToFirst : MethodName := ⟨"BuildDrawer", "leaveOutFromLastToFirst", "()Z"⟩
abbrev w_B_leaveOutFromLastToFirst : List Cond := .code y_B_leaveOutFromLastToFirst prog_1_method_19_code 3 (some .boolean) :: cw
abbrev y_B_canGo : MethodName := ⟨"BuildDrawer", "canGo", "(I)Z"⟩
abbrev w_B_canGo : List Cond := .code y_B_canGo prog_1_method_17_code 4 (some .boolean) :: cw
abbrev y_B_countLeft : MethodName := ⟨"BuildDrawer", "countLeft", "()I"⟩
abbrev w_B_countLeft : List Cond := .code y_B_countLeft prog_1_method_13_code 3 (some .int) :: cw
abbrev y_B_left : MethodName := ⟨"BuildDrawer", "left", "(I)I"⟩
abbrev w_B_left : List Cond := .code y_B_left prog_1_method_7_code 4 (some .int) :: cw
abbrev y_B_minimal : MethodName := ⟨"BuildDrawer", "minimal", "()Z"⟩
abbrev w_B_minimal : List Cond := .code y_B_minimal prog_1_method_8_code 2 (some .boolean) :: cw
abbrev y_B_same : MethodName := ⟨"BuildDrawer", "same", "(JII)Z"⟩
abbrev w_B_same : List Cond := .code y_B_same prog_1_method_9_code 6 (some .boolean) :: cw
abbrev y_D_isAtTheLikeOf : MethodName := ⟨"BuildDrawer$Drawing", "isAtTheLikeOf", "(LBuildDrawer$Drawing;)Z"⟩
abbrev w_D_isAtTheLikeOf : List Cond := .code y_D_isAtTheLikeOf prog_2_method_4_code 2 (some .boolean) :: cw
abbrev y_L_cell : MethodName := ⟨"BuildDrawerLaw", "cell", "([II)I"⟩
abbrev w_L_cell : List Cond := .code y_L_cell method_2_code 2 (some .int) :: cw
abbrev y_M_init : MethodName := ⟨"BuildDrawerModel", "<init>", "(J)V"⟩
abbrev w_M_init : List Cond := .code y_M_init prog_4_method_1_code 3 none :: cw
abbrev y_M_draw : MethodName := ⟨"BuildDrawerModel", "draw", "(II)I"⟩
abbrev w_M_draw : List Cond := .code y_M_draw prog_4_method_8_code 4 (some .int) :: cw
abbrev y_M_isSuch : MethodName := ⟨"BuildDrawerModel", "isSuch", "(II)Z"⟩
abbrev w_M_isSuch : List Cond := .code y_M_isSuch prog_4_method_7_code 2 (some .boolean) :: cw
abbrev y_M_fill : MethodName := ⟨"BuildDrawerModel", "fill", "(JIII)V"⟩
abbrev w_M_fill : List Cond := .code y_M_fill prog_4_method_6_code 9 none :: cw
abbrev y_M_chance : MethodName := ⟨"BuildDrawerModel", "chance", "(I)I"⟩
abbrev w_M_chance : List Cond := .code y_M_chance prog_4_method_3_code 2 (some .int) :: cw
abbrev y_M_sortOf : MethodName := ⟨"BuildDrawerModel", "sortOf", "(I)I"⟩
abbrev w_M_sortOf : List Cond := .code y_M_sortOf prog_4_method_4_code 1 (some .int) :: cw
abbrev y_M_drawB : MethodName := ⟨"BuildDrawerModel", "drawB", "(I)I"⟩
abbrev w_M_drawB : List Cond := .code y_M_drawB prog_4_method_5_code 3 (some .int) :: cw
abbrev y_M_same : MethodName := ⟨"BuildDrawerModel", "same", "(JII)Z"⟩
abbrev w_M_same : List Cond := .code y_M_same prog_4_method_9_code 12 (some .boolean) :: cw
abbrev y_M_verdict : MethodName := ⟨"BuildDrawerModel", "verdict", "(IZ)V"⟩
abbrev w_M_verdict : List Cond := .code y_M_verdict prog_4_method_10_code 3 none :: cw
abbrev y_M_shorter : MethodName := ⟨"BuildDrawerModel", "shorter", "()I"⟩
abbrev w_M_shorter : List Cond := .code y_M_shorter prog_4_method_14_code 3 (some .int) :: cw
abbrev y_M_holds : MethodName := ⟨"BuildDrawerModel", "holds", "(I)Z"⟩
abbrev w_M_holds : List Cond := .code y_M_holds prog_4_method_11_code 4 (some .boolean) :: cw
abbrev y_M_canGo : MethodName := ⟨"BuildDrawerModel", "canGo", "(I)Z"⟩
abbrev w_M_canGo : List Cond := .code y_M_canGo prog_4_method_12_code 3 (some .boolean) :: cw
abbrev y_M_count : MethodName := ⟨"BuildDrawerModel", "count", "()I"⟩
abbrev w_M_count : List Cond := .code y_M_count prog_4_method_13_code 3 (some .int) :: cw
abbrev y_M_minimal : MethodName := ⟨"BuildDrawerModel", "minimal", "()Z"⟩
abbrev w_M_minimal : List Cond := .code y_M_minimal prog_4_method_15_code 3 (some .boolean) :: cw
abbrev y_M_left : MethodName := ⟨"BuildDrawerModel", "left", "(I)I"⟩
abbrev w_M_left : List Cond := .code y_M_left prog_4_method_16_code 4 (some .int) :: cw
abbrev y_M_part : MethodName := ⟨"BuildDrawerModel", "part", "(II)J"⟩
abbrev w_M_part : List Cond := .code y_M_part prog_4_method_17_code 3 (some .long) :: cw
abbrev y_M_shared : MethodName := ⟨"BuildDrawerModel", "shared", "()J"⟩
abbrev w_M_shared : List Cond := .code y_M_shared prog_4_method_18_code 4 (some .long) :: cw
abbrev y_M_letter : MethodName := ⟨"BuildDrawerModel", "letter", "(I)I"⟩
abbrev w_M_letter : List Cond := .code y_M_letter prog_4_method_22_code 3 (some .int) :: cw
abbrev y_M_letterOf : MethodName := ⟨"BuildDrawerModel", "letterOf", "(I)I"⟩
abbrev w_M_letterOf : List Cond := .code y_M_letterOf prog_4_method_21_code 1 (some .int) :: cw
abbrev y_M_say : MethodName := ⟨"BuildDrawerModel", "say", "(I)V"⟩
abbrev w_M_say : List Cond := .code y_M_say prog_4_method_19_code 2 none :: cw
abbrev y_M_sayNumber : MethodName := ⟨"BuildDrawerModel", "sayNumber", "(I)V"⟩
abbrev w_M_sayNumber : List Cond := .code y_M_sayNumber prog_4_method_20_code 3 none :: cw
end
section
theorem d_D_init_0 : decode prog_2_method_1_code 0 = .ok (.aload_n 0, 1) := by decide +kernel
theorem d_D_init_1 : decode prog_2_method_1_code 1 = .ok (.invokespecial 3, 3) := by decide +kernel
theorem d_D_init_4 : decode prog_2_method_1_code 4 = .ok (.aload_n 0, 1) := by decide +kernel
theorem d_D_init_5 : decode prog_2_method_1_code 5 = .ok (.lconst 0, 1) := by decide +kernel
theorem d_D_init_6 : decode prog_2_method_1_code 6 = .ok (.putfield 9, 3) := by decide +kernel
theorem d_D_init_9 : decode prog_2_method_1_code 9 = .ok (.aload_n 0, 1) := by decide +kernel
theorem d_D_init_10 : decode prog_2_method_1_code 10 = .ok (.iconst 0, 1) := by decide +kernel
theorem d_D_init_11 : decode prog_2_method_1_code 11 = .ok (.putfield 15, 3) := by decide +kernel
theorem d_D_init_14 : decode prog_2_method_1_code 14 = .ok (.aload_n 0, 1) := by decide +kernel
theorem d_D_init_15 : decode prog_2_method_1_code 15 = .ok (.iconst 0, 1) := by decide +kernel
theorem d_D_init_16 : decode prog_2_method_1_code 16 = .ok (.putfield 19, 3) := by decide +kernel
theorem d_D_init_19 : decode prog_2_method_1_code 19 = .ok (.aload_n 0, 1) := by decide +kernel
theorem d_D_init_20 : decode prog_2_method_1_code 20 = .ok (.iconst (-1), 1) := by decide +kernel
theorem d_D_init_21 : decode prog_2_method_1_code 21 = .ok (.putfield 22, 3) := by decide +kernel
theorem d_D_init_24 : decode prog_2_method_1_code 24 = .ok (.aload_n 0, 1) := by decide +kernel
theorem d_D_init_25 : decode prog_2_method_1_code 25 = .ok (.iconst 0, 1) := by decide +kernel
theorem d_D_init_26 : decode prog_2_method_1_code 26 = .ok (.putfield 25, 3) := by decide +kernel
theorem d_D_init_29 : decode prog_2_method_1_code 29 = .ok (.aload_n 0, 1) := by decide +kernel
theorem d_D_init_30 : decode prog_2_method_1_code 30 = .ok (.iconst 0, 1) := by decide +kernel
theorem d_D_init_31 : decode prog_2_method_1_code 31 = .ok (.putfield 28, 3) := by decide +kernel
theorem d_D_init_34 : decode prog_2_method_1_code 34 = .ok (.aload_n 0, 1) := by decide +kernel
theorem d_D_init_35 : decode prog_2_method_1_code 35 = .ok (.iconst 0, 1) := by decide +kernel
theorem d_D_init_36 : decode prog_2_method_1_code 36 = .ok (.putfield 31, 3) := by decide +kernel
theorem d_D_init_39 : decode prog_2_method_1_code 39 = .ok (.aload_n 0, 1) := by decide +kernel
theorem d_D_init_40 : decode prog_2_method_1_code 40 = .ok (.iconst (-1), 1) := by decide +kernel
theorem d_D_init_41 : decode prog_2_method_1_code 41 = .ok (.putfield 34, 3) := by decide +kernel
theorem d_D_init_44 : decode prog_2_method_1_code 44 = .ok (.aload_n 0, 1) := by decide +kernel
theorem d_D_init_45 : decode prog_2_method_1_code 45 = .ok (.iconst 0, 1) := by decide +kernel
theorem d_D_init_46 : decode prog_2_method_1_code 46 = .ok (.putfield 37, 3) := by decide +kernel
theorem d_D_init_49 : decode prog_2_method_1_code 49 = .ok (.return_, 1) := by decide +kernel
theorem d_D_begin_0 : decode prog_2_method_2_code 0 = .ok (.aload_n 0, 1) := by decide +kernel
theorem d_D_begin_1 : decode prog_2_method_2_code 1 = .ok (.lload_n 1, 1) := by decide +kernel
theorem d_D_begin_2 : decode prog_2_method_2_code 2 = .ok (.iload_n 3, 1) := by decide +kernel
theorem d_D_begin_3 : decode prog_2_method_2_code 3 = .ok (.i2l, 1) := by decide +kernel
theorem d_D_begin_4 : decode prog_2_method_2_code 4 = .ok (.lxor, 1) := by decide +kernel
theorem d_D_begin_5 : decode prog_2_method_2_code 5 = .ok (.ldc2_w 40, 3) := by decide +kernel
theorem d_D_begin_8 : decode prog_2_method_2_code 8 = .ok (.lmul, 1) := by decide +kernel
theorem d_D_begin_9 : decode prog_2_method_2_code 9 = .ok (.iload 4, 2) := by decide +kernel
theorem d_D_begin_11 : decode prog_2_method_2_code 11 = .ok (.i2l, 1) := by decide +kernel
theorem d_D_begin_12 : decode prog_2_method_2_code 12 = .ok (.ladd, 1) := by decide +kernel
theorem d_D_begin_13 : decode prog_2_method_2_code 13 = .ok (.putfield 9, 3) := by decide +kernel
theorem d_D_begin_16 : decode prog_2_method_2_code 16 = .ok (.aload_n 0, 1) := by decide +kernel
theorem d_D_begin_17 : decode prog_2_method_2_code 17 = .ok (.iload_n 3, 1) := by decide +kernel
theorem d_D_begin_18 : decode prog_2_method_2_code 18 = .ok (.ifCond .lt 19, 3) := by decide +kernel
theorem d_D_begin_21 : decode prog_2_method_2_code 21 = .ok (.iload_n 3, 1) := by decide +kernel
theorem d_D_begin_22 : decode prog_2_method_2_code 22 = .ok (.getstatic 42, 3) := by decide +kernel
theorem d_D_begin_25 : decode prog_2_method_2_code 25 = .ok (.arraylength, 1) := by decide +kernel
theorem d_D_begin_26 : decode prog_2_method_2_code 26 = .ok (.if_icmp .ge 11, 3) := by decide +kernel
theorem d_D_begin_29 : decode prog_2_method_2_code 29 = .ok (.getstatic 42, 3) := by decide +kernel
theorem d_D_begin_32 : decode prog_2_method_2_code 32 = .ok (.iload_n 3, 1) := by decide +kernel
theorem d_D_begin_33 : decode prog_2_method_2_code 33 = .ok (.iaload, 1) := by decide +kernel
theorem d_D_begin_34 : decode prog_2_method_2_code 34 = .ok (.goto 4, 3) := by decide +kernel
theorem d_D_begin_37 : decode prog_2_method_2_code 37 = .ok (.iconst 0, 1) := by decide +kernel
theorem d_D_begin_38 : decode prog_2_method_2_code 38 = .ok (.putfield 15, 3) := by decide +kernel
theorem d_D_begin_41 : decode prog_2_method_2_code 41 = .ok (.aload_n 0, 1) := by decide +kernel
theorem d_D_begin_42 : decode prog_2_method_2_code 42 = .ok (.iload_n 3, 1) := by decide +kernel
theorem d_D_begin_43 : decode prog_2_method_2_code 43 = .ok (.iconst 1, 1) := by decide +kernel
theorem d_D_begin_44 : decode prog_2_method_2_code 44 = .ok (.if_icmp .ne 15, 3) := by decide +kernel
theorem d_D_begin_47 : decode prog_2_method_2_code 47 = .ok (.aload_n 0, 1) := by decide +kernel
theorem d_D_begin_48 : decode prog_2_method_2_code 48 = .ok (.bipush 16, 2) := by decide +kernel
theorem d_D_begin_50 : decode prog_2_method_2_code 50 = .ok (.invokevirtual 46, 3) := by decide +kernel
theorem d_D_begin_53 : decode prog_2_method_2_code 53 = .ok (.invokestatic 50, 3) := by decide +kernel
theorem d_D_begin_56 : decode prog_2_method_2_code 56 = .ok (.goto 4, 3) := by decide +kernel
theorem d_D_begin_59 : decode prog_2_method_2_code 59 = .ok (.iconst 0, 1) := by decide +kernel
theorem d_D_begin_60 : decode prog_2_method_2_code 60 = .ok (.putfield 19, 3) := by decide +kernel
theorem d_D_begin_63 : decode prog_2_method_2_code 63 = .ok (.aload_n 0, 1) := by decide +kernel
theorem d_D_begin_64 : decode prog_2_method_2_code 64 = .ok (.iconst (-1), 1) := by decide +kernel
theorem d_D_begin_65 : decode prog_2_method_2_code 65 = .ok (.putfield 22, 3) := by decide +kernel
theorem d_D_begin_68 : decode prog_2_method_2_code 68 = .ok (.return_, 1) := by decide +kernel
theorem d_D_chance_0 : decode prog_2_method_10_code 0 = .ok (.aload_n 0, 1) := by decide +kernel
theorem d_D_chance_1 : decode prog_2_method_10_code 1 = .ok (.aload_n 0, 1) := by decide +kernel
theorem d_D_chance_2 : decode prog_2_method_10_code 2 = .ok (.getfield 9, 3) := by decide +kernel
theorem d_D_chance_5 : decode prog_2_method_10_code 5 = .ok (.ldc2_w 66, 3) := by decide +kernel
theorem d_D_chance_8 : decode prog_2_method_10_code 8 = .ok (.lmul, 1) := by decide +kernel
theorem d_D_chance_9 : decode prog_2_method_10_code 9 = .ok (.ldc2_w 68, 3) := by decide +kernel
theorem d_D_chance_12 : decode prog_2_method_10_code 12 = .ok (.ladd, 1) := by decide +kernel
theorem d_D_chance_13 : decode prog_2_method_10_code 13 = .ok (.putfield 9, 3) := by decide +kernel
theorem d_D_chance_16 : decode prog_2_method_10_code 16 = .ok (.aload_n 0, 1) := by decide +kernel
theorem d_D_chance_17 : decode prog_2_method_10_code 17 = .ok (.getfield 9, 3) := by decide +kernel
theorem d_D_chance_20 : decode prog_2_method_10_code 20 = .ok (.bipush 33, 2) := by decide +kernel
theorem d_D_chance_22 : decode prog_2_method_10_code 22 = .ok (.lushr, 1) := by decide +kernel
theorem d_D_chance_23 : decode prog_2_method_10_code 23 = .ok (.l2i, 1) := by decide +kernel
theorem d_D_chance_24 : decode prog_2_method_10_code 24 = .ok (.istore_n 2, 1) := by decide +kernel
theorem d_D_chance_25 : decode prog_2_method_10_code 25 = .ok (.iload_n 1, 1) := by decide +kernel
theorem d_D_chance_26 : decode prog_2_method_10_code 26 = .ok (.ifCond .le 9, 3) := by decide +kernel
theorem d_D_chance_29 : decode prog_2_method_10_code 29 = .ok (.iload_n 2, 1) := by decide +kernel
theorem d_D_chance_30 : decode prog_2_method_10_code 30 = .ok (.iload_n 1, 1) := by decide +kernel
theorem d_D_chance_31 : decode prog_2_method_10_code 31 = .ok (.irem, 1) := by decide +kernel
theorem d_D_chance_32 : decode prog_2_method_10_code 32 = .ok (.goto 4, 3) := by decide +kernel
theorem d_D_chance_35 : decode prog_2_method_10_code 35 = .ok (.iconst 0, 1) := by decide +kernel
theorem d_D_chance_36 : decode prog_2_method_10_code 36 = .ok (.ireturn, 1) := by decide +kernel
theorem d_D_bitOrNone_0 : decode prog_2_method_5_code 0 = .ok (.iload_n 0, 1) := by decide +kernel
theorem d_D_bitOrNone_1 : decode prog_2_method_5_code 1 = .ok (.bipush 8, 2) := by decide +kernel
theorem d_D_bitOrNone_3 : decode prog_2_method_5_code 3 = .ok (.if_icmp .ge 9, 3) := by decide +kernel
theorem d_D_bitOrNone_6 : decode prog_2_method_5_code 6 = .ok (.iconst 1, 1) := by decide +kernel
theorem d_D_bitOrNone_7 : decode prog_2_method_5_code 7 = .ok (.iload_n 0, 1) := by decide +kernel
theorem d_D_bitOrNone_8 : decode prog_2_method_5_code 8 = .ok (.ishl, 1) := by decide +kernel
theorem d_D_bitOrNone_9 : decode prog_2_method_5_code 9 = .ok (.goto 4, 3) := by decide +kernel
theorem d_D_bitOrNone_12 : decode prog_2_method_5_code 12 = .ok (.iconst 0, 1) := by decide +kernel
theorem d_D_bitOrNone_13 : decode prog_2_method_5_code 13 = .ok (.ireturn, 1) := by decide +kernel
theorem d_D_next_0 : decode prog_2_method_3_code 0 = .ok (.aload_n 0, 1) := by decide +kernel
theorem d_D_next_1 : decode prog_2_method_3_code 1 = .ok (.dup, 1) := by decide +kernel
theorem d_D_next_2 : decode prog_2_method_3_code 2 = .ok (.getfield 22, 3) := by decide +kernel
theorem d_D_next_5 : decode prog_2_method_3_code 5 = .ok (.iconst 1, 1) := by decide +kernel
theorem d_D_next_6 : decode prog_2_method_3_code 6 = .ok (.iadd, 1) := by decide +kernel
theorem d_D_next_7 : decode prog_2_method_3_code 7 = .ok (.putfield 22, 3) := by decide +kernel
theorem d_D_next_10 : decode prog_2_method_3_code 10 = .ok (.aload_n 0, 1) := by decide +kernel
theorem d_D_next_11 : decode prog_2_method_3_code 11 = .ok (.aload_n 0, 1) := by decide +kernel
theorem d_D_next_12 : decode prog_2_method_3_code 12 = .ok (.invokevirtual 53, 3) := by decide +kernel
theorem d_D_next_15 : decode prog_2_method_3_code 15 = .ok (.putfield 25, 3) := by decide +kernel
theorem d_D_next_18 : decode prog_2_method_3_code 18 = .ok (.aload_n 0, 1) := by decide +kernel
theorem d_D_next_19 : decode prog_2_method_3_code 19 = .ok (.aload_n 0, 1) := by decide +kernel
theorem d_D_next_20 : decode prog_2_method_3_code 20 = .ok (.sipush 1000, 3) := by decide +kernel
theorem d_D_next_23 : decode prog_2_method_3_code 23 = .ok (.invokevirtual 46, 3) := by decide +kernel
theorem d_D_next_26 : decode prog_2_method_3_code 26 = .ok (.putfield 28, 3) := by decide +kernel
theorem d_D_next_29 : decode prog_2_method_3_code 29 = .ok (.aload_n 0, 1) := by decide +kernel
theorem d_D_next_30 : decode prog_2_method_3_code 30 = .ok (.aload_n 0, 1) := by decide +kernel
theorem d_D_next_31 : decode prog_2_method_3_code 31 = .ok (.invokevirtual 57, 3) := by decide +kernel
theorem d_D_next_34 : decode prog_2_method_3_code 34 = .ok (.putfield 31, 3) := by decide +kernel
theorem d_D_next_37 : decode prog_2_method_3_code 37 = .ok (.aload_n 0, 1) := by decide +kernel
theorem d_D_next_38 : decode prog_2_method_3_code 38 = .ok (.iconst 1, 1) := by decide +kernel
theorem d_D_next_39 : decode prog_2_method_3_code 39 = .ok (.aload_n 0, 1) := by decide +kernel
theorem d_D_next_40 : decode prog_2_method_3_code 40 = .ok (.bipush 8, 2) := by decide +kernel
theorem d_D_next_42 : decode prog_2_method_3_code 42 = .ok (.invokevirtual 46, 3) := by decide +kernel
theorem d_D_next_45 : decode prog_2_method_3_code 45 = .ok (.ishl, 1) := by decide +kernel
theorem d_D_next_46 : decode prog_2_method_3_code 46 = .ok (.putfield 37, 3) := by decide +kernel
theorem d_D_next_49 : decode prog_2_method_3_code 49 = .ok (.aload_n 0, 1) := by decide +kernel
theorem d_D_next_50 : decode prog_2_method_3_code 50 = .ok (.aload_n 0, 1) := by decide +kernel
theorem d_D_next_51 : decode prog_2_method_3_code 51 = .ok (.invokevirtual 60, 3) := by decide +kernel
theorem d_D_next_54 : decode prog_2_method_3_code 54 = .ok (.putfield 34, 3) := by decide +kernel
theorem d_D_next_57 : decode prog_2_method_3_code 57 = .ok (.return_, 1) := by decide +kernel
theorem d_D_nextSort_0 : decode prog_2_method_6_code 0 = .ok (.aload_n 0, 1) := by decide +kernel
theorem d_D_nextSort_1 : decode prog_2_method_6_code 1 = .ok (.getfield 22, 3) := by decide +kernel
theorem d_D_nextSort_4 : decode prog_2_method_6_code 4 = .ok (.ifCond .ne 5, 3) := by decide +kernel
theorem d_D_nextSort_7 : decode prog_2_method_6_code 7 = .ok (.iconst 0, 1) := by decide +kernel
theorem d_D_nextSort_8 : decode prog_2_method_6_code 8 = .ok (.ireturn, 1) := by decide +kernel
theorem d_D_nextSort_9 : decode prog_2_method_6_code 9 = .ok (.aload_n 0, 1) := by decide +kernel
theorem d_D_nextSort_10 : decode prog_2_method_6_code 10 = .ok (.getfield 22, 3) := by decide +kernel
theorem d_D_nextSort_13 : decode prog_2_method_6_code 13 = .ok (.iconst 1, 1) := by decide +kernel
theorem d_D_nextSort_14 : decode prog_2_method_6_code 14 = .ok (.if_icmp .ne 5, 3) := by decide +kernel
theorem d_D_nextSort_17 : decode prog_2_method_6_code 17 = .ok (.iconst 1, 1) := by decide +kernel
theorem d_D_nextSort_18 : decode prog_2_method_6_code 18 = .ok (.ireturn, 1) := by decide +kernel
theorem d_D_nextSort_19 : decode prog_2_method_6_code 19 = .ok (.aload_n 0, 1) := by decide +kernel
theorem d_D_nextSort_20 : decode prog_2_method_6_code 20 = .ok (.iconst 4, 1) := by decide +kernel
theorem d_D_nextSort_21 : decode prog_2_method_6_code 21 = .ok (.invokevirtual 46, 3) := by decide +kernel
theorem d_D_nextSort_24 : decode prog_2_method_6_code 24 = .ok (.iconst 3, 1) := by decide +kernel
theorem d_D_nextSort_25 : decode prog_2_method_6_code 25 = .ok (.if_icmp .ne 7, 3) := by decide +kernel
theorem d_D_nextSort_28 : decode prog_2_method_6_code 28 = .ok (.iconst 0, 1) := by decide +kernel
theorem d_D_nextSort_29 : decode prog_2_method_6_code 29 = .ok (.goto 7, 3) := by decide +kernel
theorem d_D_nextSort_32 : decode prog_2_method_6_code 32 = .ok (.aload_n 0, 1) := by decide +kernel
theorem d_D_nextSort_33 : decode prog_2_method_6_code 33 = .ok (.getfield 15, 3) := by decide +kernel
theorem d_D_nextSort_36 : decode prog_2_method_6_code 36 = .ok (.ireturn, 1) := by decide +kernel
theorem d_D_nextB_0 : decode prog_2_method_7_code 0 = .ok (.aload_n 0, 1) := by decide +kernel
theorem d_D_nextB_1 : decode prog_2_method_7_code 1 = .ok (.getfield 25, 3) := by decide +kernel
theorem d_D_nextB_4 : decode prog_2_method_7_code 4 = .ok (.tableswitch 96 0 6 #[44, 51, 58, 71, 78, 83, 89], 44) := by decide +kernel
theorem d_D_nextB_48 : decode prog_2_method_7_code 48 = .ok (.aload_n 0, 1) := by decide +kernel
theorem d_D_nextB_49 : decode prog_2_method_7_code 49 = .ok (.bipush 100, 2) := by decide +kernel
theorem d_D_nextB_51 : decode prog_2_method_7_code 51 = .ok (.invokevirtual 46, 3) := by decide +kernel
theorem d_D_nextB_54 : decode prog_2_method_7_code 54 = .ok (.ireturn, 1) := by decide +kernel
theorem d_D_nextB_55 : decode prog_2_method_7_code 55 = .ok (.aload_n 0, 1) := by decide +kernel
theorem d_D_nextB_56 : decode prog_2_method_7_code 56 = .ok (.bipush 8, 2) := by decide +kernel
theorem d_D_nextB_58 : decode prog_2_method_7_code 58 = .ok (.invokevirtual 46, 3) := by decide +kernel
theorem d_D_nextB_61 : decode prog_2_method_7_code 61 = .ok (.ireturn, 1) := by decide +kernel
theorem d_D_nextB_62 : decode prog_2_method_7_code 62 = .ok (.aload_n 0, 1) := by decide +kernel
theorem d_D_nextB_63 : decode prog_2_method_7_code 63 = .ok (.sipush 256, 3) := by decide +kernel
theorem d_D_nextB_66 : decode prog_2_method_7_code 66 = .ok (.invokevirtual 46, 3) := by decide +kernel
theorem d_D_nextB_69 : decode prog_2_method_7_code 69 = .ok (.aload_n 0, 1) := by decide +kernel
theorem d_D_nextB_70 : decode prog_2_method_7_code 70 = .ok (.getfield 19, 3) := by decide +kernel
theorem d_D_nextB_73 : decode prog_2_method_7_code 73 = .ok (.ior, 1) := by decide +kernel
theorem d_D_nextB_74 : decode prog_2_method_7_code 74 = .ok (.ireturn, 1) := by decide +kernel
theorem d_D_nextB_75 : decode prog_2_method_7_code 75 = .ok (.aload_n 0, 1) := by decide +kernel
theorem d_D_nextB_76 : decode prog_2_method_7_code 76 = .ok (.bipush 10, 2) := by decide +kernel
theorem d_D_nextB_78 : decode prog_2_method_7_code 78 = .ok (.invokevirtual 46, 3) := by decide +kernel
theorem d_D_nextB_81 : decode prog_2_method_7_code 81 = .ok (.ireturn, 1) := by decide +kernel
theorem d_D_nextB_82 : decode prog_2_method_7_code 82 = .ok (.aload_n 0, 1) := by decide +kernel
theorem d_D_nextB_83 : decode prog_2_method_7_code 83 = .ok (.invokevirtual 63, 3) := by decide +kernel
theorem d_D_nextB_86 : decode prog_2_method_7_code 86 = .ok (.ireturn, 1) := by decide +kernel
theorem d_D_nextB_87 : decode prog_2_method_7_code 87 = .ok (.aload_n 0, 1) := by decide +kernel
theorem d_D_nextB_88 : decode prog_2_method_7_code 88 = .ok (.iconst 5, 1) := by decide +kernel
theorem d_D_nextB_89 : decode prog_2_method_7_code 89 = .ok (.invokevirtual 46, 3) := by decide +kernel
theorem d_D_nextB_92 : decode prog_2_method_7_code 92 = .ok (.ireturn, 1) := by decide +kernel
theorem d_D_nextB_93 : decode prog_2_method_7_code 93 = .ok (.aload_n 0, 1) := by decide +kernel
theorem d_D_nextB_94 : decode prog_2_method_7_code 94 = .ok (.bipush 7, 2) := by decide +kernel
theorem d_D_nextB_96 : decode prog_2_method_7_code 96 = .ok (.invokevirtual 46, 3) := by decide +kernel
theorem d_D_nextB_99 : decode prog_2_method_7_code 99 = .ok (.ireturn, 1) := by decide +kernel
theorem d_D_nextB_100 : decode prog_2_method_7_code 100 = .ok (.aload_n 0, 1) := by decide +kernel
theorem d_D_nextB_101 : decode prog_2_method_7_code 101 = .ok (.bipush 6, 2) := by decide +kernel
theorem d_D_nextB_103 : decode prog_2_method_7_code 103 = .ok (.invokevirtual 46, 3) := by decide +kernel
theorem d_D_nextB_106 : decode prog_2_method_7_code 106 = .ok (.ireturn, 1) := by decide +kernel
theorem d_D_nextBOfStep_0 : decode prog_2_method_8_code 0 = .ok (.aload_n 0, 1) := by decide +kernel
theorem d_D_nextBOfStep_1 : decode prog_2_method_8_code 1 = .ok (.bipush 12, 2) := by decide +kernel
theorem d_D_nextBOfStep_3 : decode prog_2_method_8_code 3 = .ok (.invokevirtual 46, 3) := by decide +kernel
theorem d_D_nextBOfStep_6 : decode prog_2_method_8_code 6 = .ok (.istore_n 1, 1) := by decide +kernel
theorem d_D_nextBOfStep_7 : decode prog_2_method_8_code 7 = .ok (.aload_n 0, 1) := by decide +kernel
theorem d_D_nextBOfStep_8 : decode prog_2_method_8_code 8 = .ok (.iconst 5, 1) := by decide +kernel
theorem d_D_nextBOfStep_9 : decode prog_2_method_8_code 9 = .ok (.invokevirtual 46, 3) := by decide +kernel
theorem d_D_nextBOfStep_12 : decode prog_2_method_8_code 12 = .ok (.ifCond .ne 10, 3) := by decide +kernel
theorem d_D_nextBOfStep_15 : decode prog_2_method_8_code 15 = .ok (.iload_n 1, 1) := by decide +kernel
theorem d_D_nextBOfStep_16 : decode prog_2_method_8_code 16 = .ok (.bipush 100, 2) := by decide +kernel
theorem d_D_nextBOfStep_18 : decode prog_2_method_8_code 18 = .ok (.iadd, 1) := by decide +kernel
theorem d_D_nextBOfStep_19 : decode prog_2_method_8_code 19 = .ok (.goto 4, 3) := by decide +kernel
theorem d_D_nextBOfStep_22 : decode prog_2_method_8_code 22 = .ok (.iload_n 1, 1) := by decide +kernel
theorem d_D_nextBOfStep_23 : decode prog_2_method_8_code 23 = .ok (.ireturn, 1) := by decide +kernel
theorem d_D_nextNeed_0 : decode prog_2_method_9_code 0 = .ok (.aload_n 0, 1) := by decide +kernel
theorem d_D_nextNeed_1 : decode prog_2_method_9_code 1 = .ok (.getfield 22, 3) := by decide +kernel
theorem d_D_nextNeed_4 : decode prog_2_method_9_code 4 = .ok (.ifCond .ne 5, 3) := by decide +kernel
theorem d_D_nextNeed_7 : decode prog_2_method_9_code 7 = .ok (.iconst (-1), 1) := by decide +kernel
theorem d_D_nextNeed_8 : decode prog_2_method_9_code 8 = .ok (.ireturn, 1) := by decide +kernel
theorem d_D_nextNeed_9 : decode prog_2_method_9_code 9 = .ok (.aload_n 0, 1) := by decide +kernel
theorem d_D_nextNeed_10 : decode prog_2_method_9_code 10 = .ok (.getfield 22, 3) := by decide +kernel
theorem d_D_nextNeed_13 : decode prog_2_method_9_code 13 = .ok (.iconst 1, 1) := by decide +kernel
theorem d_D_nextNeed_14 : decode prog_2_method_9_code 14 = .ok (.if_icmp .ne 5, 3) := by decide +kernel
theorem d_D_nextNeed_17 : decode prog_2_method_9_code 17 = .ok (.iconst 0, 1) := by decide +kernel
theorem d_D_nextNeed_18 : decode prog_2_method_9_code 18 = .ok (.ireturn, 1) := by decide +kernel
theorem d_D_nextNeed_19 : decode prog_2_method_9_code 19 = .ok (.aload_n 0, 1) := by decide +kernel
theorem d_D_nextNeed_20 : decode prog_2_method_9_code 20 = .ok (.aload_n 0, 1) := by decide +kernel
theorem d_D_nextNeed_21 : decode prog_2_method_9_code 21 = .ok (.getfield 22, 3) := by decide +kernel
theorem d_D_nextNeed_24 : decode prog_2_method_9_code 24 = .ok (.iconst 1, 1) := by decide +kernel
theorem d_D_nextNeed_25 : decode prog_2_method_9_code 25 = .ok (.iadd, 1) := by decide +kernel
theorem d_D_nextNeed_26 : decode prog_2_method_9_code 26 = .ok (.invokevirtual 46, 3) := by decide +kernel
theorem d_D_nextNeed_29 : decode prog_2_method_9_code 29 = .ok (.istore_n 1, 1) := by decide +kernel
theorem d_D_nextNeed_30 : decode prog_2_method_9_code 30 = .ok (.iload_n 1, 1) := by decide +kernel
theorem d_D_nextNeed_31 : decode prog_2_method_9_code 31 = .ok (.aload_n 0, 1) := by decide +kernel
theorem d_D_nextNeed_32 : decode prog_2_method_9_code 32 = .ok (.getfield 22, 3) := by decide +kernel
theorem d_D_nextNeed_35 : decode prog_2_method_9_code 35 = .ok (.if_icmp .ne 7, 3) := by decide +kernel
theorem d_D_nextNeed_38 : decode prog_2_method_9_code 38 = .ok (.iconst (-1), 1) := by decide +kernel
theorem d_D_nextNeed_39 : decode prog_2_method_9_code 39 = .ok (.goto 4, 3) := by decide +kernel
theorem d_D_nextNeed_42 : decode prog_2_method_9_code 42 = .ok (.iload_n 1, 1) := by decide +kernel
theorem d_D_nextNeed_43 : decode prog_2_method_9_code 43 = .ok (.ireturn, 1) := by decide +kernel
theorem d_I_bitCount_0 : decode prog_5_method_49_code 0 = .ok (.iload_n 0, 1) := by decide +kernel
theorem d_I_bitCount_1 : decode prog_5_method_49_code 1 = .ok (.iload_n 0, 1) := by decide +kernel
theorem d_I_bitCount_2 : decode prog_5_method_49_code 2 = .ok (.iconst 1, 1) := by decide +kernel
theorem d_I_bitCount_3 : decode prog_5_method_49_code 3 = .ok (.iushr, 1) := by decide +kernel
theorem d_I_bitCount_4 : decode prog_5_method_49_code 4 = .ok (.ldc_w 265, 3) := by decide +kernel
theorem d_I_bitCount_7 : decode prog_5_method_49_code 7 = .ok (.iand, 1) := by decide +kernel
theorem d_I_bitCount_8 : decode prog_5_method_49_code 8 = .ok (.isub, 1) := by decide +kernel
theorem d_I_bitCount_9 : decode prog_5_method_49_code 9 = .ok (.istore_n 0, 1) := by decide +kernel
theorem d_I_bitCount_10 : decode prog_5_method_49_code 10 = .ok (.iload_n 0, 1) := by decide +kernel
theorem d_I_bitCount_11 : decode prog_5_method_49_code 11 = .ok (.ldc_w 266, 3) := by decide +kernel
theorem d_I_bitCount_14 : decode prog_5_method_49_code 14 = .ok (.iand, 1) := by decide +kernel
theorem d_I_bitCount_15 : decode prog_5_method_49_code 15 = .ok (.iload_n 0, 1) := by decide +kernel
theorem d_I_bitCount_16 : decode prog_5_method_49_code 16 = .ok (.iconst 2, 1) := by decide +kernel
theorem d_I_bitCount_17 : decode prog_5_method_49_code 17 = .ok (.iushr, 1) := by decide +kernel
theorem d_I_bitCount_18 : decode prog_5_method_49_code 18 = .ok (.ldc_w 266, 3) := by decide +kernel
theorem d_I_bitCount_21 : decode prog_5_method_49_code 21 = .ok (.iand, 1) := by decide +kernel
theorem d_I_bitCount_22 : decode prog_5_method_49_code 22 = .ok (.iadd, 1) := by decide +kernel
theorem d_I_bitCount_23 : decode prog_5_method_49_code 23 = .ok (.istore_n 0, 1) := by decide +kernel
theorem d_I_bitCount_24 : decode prog_5_method_49_code 24 = .ok (.iload_n 0, 1) := by decide +kernel
theorem d_I_bitCount_25 : decode prog_5_method_49_code 25 = .ok (.iload_n 0, 1) := by decide +kernel
theorem d_I_bitCount_26 : decode prog_5_method_49_code 26 = .ok (.iconst 4, 1) := by decide +kernel
theorem d_I_bitCount_27 : decode prog_5_method_49_code 27 = .ok (.iushr, 1) := by decide +kernel
theorem d_I_bitCount_28 : decode prog_5_method_49_code 28 = .ok (.iadd, 1) := by decide +kernel
theorem d_I_bitCount_29 : decode prog_5_method_49_code 29 = .ok (.ldc_w 267, 3) := by decide +kernel
theorem d_I_bitCount_32 : decode prog_5_method_49_code 32 = .ok (.iand, 1) := by decide +kernel
theorem d_I_bitCount_33 : decode prog_5_method_49_code 33 = .ok (.istore_n 0, 1) := by decide +kernel
theorem d_I_bitCount_34 : decode prog_5_method_49_code 34 = .ok (.iload_n 0, 1) := by decide +kernel
theorem d_I_bitCount_35 : decode prog_5_method_49_code 35 = .ok (.iload_n 0, 1) := by decide +kernel
theorem d_I_bitCount_36 : decode prog_5_method_49_code 36 = .ok (.bipush 8, 2) := by decide +kernel
theorem d_I_bitCount_38 : decode prog_5_method_49_code 38 = .ok (.iushr, 1) := by decide +kernel
theorem d_I_bitCount_39 : decode prog_5_method_49_code 39 = .ok (.iadd, 1) := by decide +kernel
theorem d_I_bitCount_40 : decode prog_5_method_49_code 40 = .ok (.istore_n 0, 1) := by decide +kernel
theorem d_I_bitCount_41 : decode prog_5_method_49_code 41 = .ok (.iload_n 0, 1) := by decide +kernel
theorem d_I_bitCount_42 : decode prog_5_method_49_code 42 = .ok (.iload_n 0, 1) := by decide +kernel
theorem d_I_bitCount_43 : decode prog_5_method_49_code 43 = .ok (.bipush 16, 2) := by decide +kernel
theorem d_I_bitCount_45 : decode prog_5_method_49_code 45 = .ok (.iushr, 1) := by decide +kernel
theorem d_I_bitCount_46 : decode prog_5_method_49_code 46 = .ok (.iadd, 1) := by decide +kernel
theorem d_I_bitCount_47 : decode prog_5_method_49_code 47 = .ok (.istore_n 0, 1) := by decide +kernel
theorem d_I_bitCount_48 : decode prog_5_method_49_code 48 = .ok (.iload_n 0, 1) := by decide +kernel
theorem d_I_bitCount_49 : decode prog_5_method_49_code 49 = .ok (.bipush 63, 2) := by decide +kernel
theorem d_I_bitCount_51 : decode prog_5_method_49_code 51 = .ok (.iand, 1) := by decide +kernel
theorem d_I_bitCount_52 : decode prog_5_method_49_code 52 = .ok (.ireturn, 1) := by decide +kernel
theorem d_S_length_0 : decode prog_6_method_54_code 0 = .ok (.aload_n 0, 1) := by decide +kernel
theorem d_S_length_1 : decode prog_6_method_54_code 1 = .ok (.getfield 9, 3) := by decide +kernel
theorem d_S_length_4 : decode prog_6_method_54_code 4 = .ok (.arraylength, 1) := by decide +kernel
theorem d_S_length_5 : decode prog_6_method_54_code 5 = .ok (.aload_n 0, 1) := by decide +kernel
theorem d_S_length_6 : decode prog_6_method_54_code 6 = .ok (.invokevirtual 335, 3) := by decide +kernel
theorem d_S_length_9 : decode prog_6_method_54_code 9 = .ok (.ishr, 1) := by decide +kernel
theorem d_S_length_10 : decode prog_6_method_54_code 10 = .ok (.ireturn, 1) := by decide +kernel
theorem d_S_coder_0 : decode prog_6_method_152_code 0 = .ok (.getstatic 38, 3) := by decide +kernel
theorem d_S_coder_3 : decode prog_6_method_152_code 3 = .ok (.ifCond .eq 10, 3) := by decide +kernel
theorem d_S_coder_6 : decode prog_6_method_152_code 6 = .ok (.aload_n 0, 1) := by decide +kernel
theorem d_S_coder_7 : decode prog_6_method_152_code 7 = .ok (.getfield 15, 3) := by decide +kernel
theorem d_S_coder_10 : decode prog_6_method_152_code 10 = .ok (.goto 4, 3) := by decide +kernel
theorem d_S_coder_13 : decode prog_6_method_152_code 13 = .ok (.iconst 1, 1) := by decide +kernel
theorem d_S_coder_14 : decode prog_6_method_152_code 14 = .ok (.ireturn, 1) := by decide +kernel
theorem d_S_charAt_0 : decode prog_6_method_56_code 0 = .ok (.aload_n 0, 1) := by decide +kernel
theorem d_S_charAt_1 : decode prog_6_method_56_code 1 = .ok (.invokevirtual 492, 3) := by decide +kernel
theorem d_S_charAt_4 : decode prog_6_method_56_code 4 = .ok (.ifCond .eq 12, 3) := by decide +kernel
theorem d_S_charAt_7 : decode prog_6_method_56_code 7 = .ok (.aload_n 0, 1) := by decide +kernel
theorem d_S_charAt_8 : decode prog_6_method_56_code 8 = .ok (.getfield 9, 3) := by decide +kernel
theorem d_S_charAt_11 : decode prog_6_method_56_code 11 = .ok (.iload_n 1, 1) := by decide +kernel
theorem d_S_charAt_12 : decode prog_6_method_56_code 12 = .ok (.invokestatic 495, 3) := by decide +kernel
theorem d_S_charAt_15 : decode prog_6_method_56_code 15 = .ok (.ireturn, 1) := by decide +kernel
theorem d_S_charAt_16 : decode prog_6_method_56_code 16 = .ok (.aload_n 0, 1) := by decide +kernel
theorem d_S_charAt_17 : decode prog_6_method_56_code 17 = .ok (.getfield 9, 3) := by decide +kernel
theorem d_S_charAt_20 : decode prog_6_method_56_code 20 = .ok (.iload_n 1, 1) := by decide +kernel
theorem d_S_charAt_21 : decode prog_6_method_56_code 21 = .ok (.invokestatic 498, 3) := by decide +kernel
theorem d_S_charAt_24 : decode prog_6_method_56_code 24 = .ok (.ireturn, 1) := by decide +kernel
theorem d_S_isLatin1_0 : decode prog_6_method_154_code 0 = .ok (.getstatic 38, 3) := by decide +kernel
theorem d_S_isLatin1_3 : decode prog_6_method_154_code 3 = .ok (.ifCond .eq 14, 3) := by decide +kernel
theorem d_S_isLatin1_6 : decode prog_6_method_154_code 6 = .ok (.aload_n 0, 1) := by decide +kernel
theorem d_S_isLatin1_7 : decode prog_6_method_154_code 7 = .ok (.getfield 15, 3) := by decide +kernel
theorem d_S_isLatin1_10 : decode prog_6_method_154_code 10 = .ok (.ifCond .ne 7, 3) := by decide +kernel
theorem d_S_isLatin1_13 : decode prog_6_method_154_code 13 = .ok (.iconst 1, 1) := by decide +kernel
theorem d_S_isLatin1_14 : decode prog_6_method_154_code 14 = .ok (.goto 4, 3) := by decide +kernel
theorem d_S_isLatin1_17 : decode prog_6_method_154_code 17 = .ok (.iconst 0, 1) := by decide +kernel
theorem d_S_isLatin1_18 : decode prog_6_method_154_code 18 = .ok (.ireturn, 1) := by decide +kernel
theorem d_S1_charAt_0 : decode prog_7_method_2_code 0 = .ok (.iload_n 1, 1) := by decide +kernel
theorem d_S1_charAt_1 : decode prog_7_method_2_code 1 = .ok (.aload_n 0, 1) := by decide +kernel
theorem d_S1_charAt_2 : decode prog_7_method_2_code 2 = .ok (.arraylength, 1) := by decide +kernel
theorem d_S1_charAt_3 : decode prog_7_method_2_code 3 = .ok (.invokestatic 9, 3) := by decide +kernel
theorem d_S1_charAt_6 : decode prog_7_method_2_code 6 = .ok (.aload_n 0, 1) := by decide +kernel
theorem d_S1_charAt_7 : decode prog_7_method_2_code 7 = .ok (.iload_n 1, 1) := by decide +kernel
theorem d_S1_charAt_8 : decode prog_7_method_2_code 8 = .ok (.baload, 1) := by decide +kernel
theorem d_S1_charAt_9 : decode prog_7_method_2_code 9 = .ok (.sipush 255, 3) := by decide +kernel
theorem d_S1_charAt_12 : decode prog_7_method_2_code 12 = .ok (.iand, 1) := by decide +kernel
theorem d_S1_charAt_13 : decode prog_7_method_2_code 13 = .ok (.i2c, 1) := by decide +kernel
theorem d_S1_charAt_14 : decode prog_7_method_2_code 14 = .ok (.ireturn, 1) := by decide +kernel
theorem d_S_checkIndex_0 : decode prog_6_method_155_code 0 = .ok (.iload_n 0, 1) := by decide +kernel
theorem d_S_checkIndex_1 : decode prog_6_method_155_code 1 = .ok (.iload_n 1, 1) := by decide +kernel
theorem d_S_checkIndex_2 : decode prog_6_method_155_code 2 = .ok (.getstatic 1053, 3) := by decide +kernel
theorem d_S_checkIndex_5 : decode prog_6_method_155_code 5 = .ok (.invokestatic 1059, 3) := by decide +kernel
theorem d_S_checkIndex_8 : decode prog_6_method_155_code 8 = .ok (.pop, 1) := by decide +kernel
theorem d_S_checkIndex_9 : decode prog_6_method_155_code 9 = .ok (.return_, 1) := by decide +kernel
theorem d_P_checkIndex_0 : decode prog_9_method_11_code 0 = .ok (.iload_n 0, 1) := by decide +kernel
theorem d_P_checkIndex_1 : decode prog_9_method_11_code 1 = .ok (.ifCond .lt 8, 3) := by decide +kernel
theorem d_P_checkIndex_4 : decode prog_9_method_11_code 4 = .ok (.iload_n 0, 1) := by decide +kernel
theorem d_P_checkIndex_5 : decode prog_9_method_11_code 5 = .ok (.iload_n 1, 1) := by decide +kernel
theorem d_P_checkIndex_6 : decode prog_9_method_11_code 6 = .ok (.if_icmp .lt 10, 3) := by decide +kernel
theorem d_P_checkIndex_9 : decode prog_9_method_11_code 9 = .ok (.aload_n 2, 1) := by decide +kernel
theorem d_P_checkIndex_10 : decode prog_9_method_11_code 10 = .ok (.iload_n 0, 1) := by decide +kernel
theorem d_P_checkIndex_11 : decode prog_9_method_11_code 11 = .ok (.iload_n 1, 1) := by decide +kernel
theorem d_P_checkIndex_12 : decode prog_9_method_11_code 12 = .ok (.invokestatic 95, 3) := by decide +kernel
theorem d_P_checkIndex_15 : decode prog_9_method_11_code 15 = .ok (.athrow, 1) := by decide +kernel
theorem d_P_checkIndex_16 : decode prog_9_method_11_code 16 = .ok (.iload_n 0, 1) := by decide +kernel
theorem d_P_checkIndex_17 : decode prog_9_method_11_code 17 = .ok (.ireturn, 1) := by decide +kernel
theorem d_D_isAtTheLikeOf_0 : decode prog_2_method_4_code 0 = .ok (.aload_n 1, 1) := by decide +kernel
theorem d_D_isAtTheLikeOf_1 : decode prog_2_method_4_code 1 = .ok (.ifnull 62, 3) := by decide +kernel
theorem d_D_isAtTheLikeOf_4 : decode prog_2_method_4_code 4 = .ok (.aload_n 0, 1) := by decide +kernel
theorem d_D_isAtTheLikeOf_5 : decode prog_2_method_4_code 5 = .ok (.getfield 25, 3) := by decide +kernel
theorem d_D_isAtTheLikeOf_8 : decode prog_2_method_4_code 8 = .ok (.aload_n 1, 1) := by decide +kernel
theorem d_D_isAtTheLikeOf_9 : decode prog_2_method_4_code 9 = .ok (.getfield 25, 3) := by decide +kernel
theorem d_D_isAtTheLikeOf_12 : decode prog_2_method_4_code 12 = .ok (.if_icmp .ne 51, 3) := by decide +kernel
theorem d_D_isAtTheLikeOf_15 : decode prog_2_method_4_code 15 = .ok (.aload_n 0, 1) := by decide +kernel
theorem d_D_isAtTheLikeOf_16 : decode prog_2_method_4_code 16 = .ok (.getfield 28, 3) := by decide +kernel
theorem d_D_isAtTheLikeOf_19 : decode prog_2_method_4_code 19 = .ok (.aload_n 1, 1) := by decide +kernel
theorem d_D_isAtTheLikeOf_20 : decode prog_2_method_4_code 20 = .ok (.getfield 28, 3) := by decide +kernel
theorem d_D_isAtTheLikeOf_23 : decode prog_2_method_4_code 23 = .ok (.if_icmp .ne 40, 3) := by decide +kernel
theorem d_D_isAtTheLikeOf_26 : decode prog_2_method_4_code 26 = .ok (.aload_n 0, 1) := by decide +kernel
theorem d_D_isAtTheLikeOf_27 : decode prog_2_method_4_code 27 = .ok (.getfield 31, 3) := by decide +kernel
theorem d_D_isAtTheLikeOf_30 : decode prog_2_method_4_code 30 = .ok (.aload_n 1, 1) := by decide +kernel
theorem d_D_isAtTheLikeOf_31 : decode prog_2_method_4_code 31 = .ok (.getfield 31, 3) := by decide +kernel
theorem d_D_isAtTheLikeOf_34 : decode prog_2_method_4_code 34 = .ok (.if_icmp .ne 29, 3) := by decide +kernel
theorem d_D_isAtTheLikeOf_37 : decode prog_2_method_4_code 37 = .ok (.aload_n 0, 1) := by decide +kernel
theorem d_D_isAtTheLikeOf_38 : decode prog_2_method_4_code 38 = .ok (.getfield 34, 3) := by decide +kernel
theorem d_D_isAtTheLikeOf_41 : decode prog_2_method_4_code 41 = .ok (.aload_n 1, 1) := by decide +kernel
theorem d_D_isAtTheLikeOf_42 : decode prog_2_method_4_code 42 = .ok (.getfield 34, 3) := by decide +kernel
theorem d_D_isAtTheLikeOf_45 : decode prog_2_method_4_code 45 = .ok (.if_icmp .ne 18, 3) := by decide +kernel
theorem d_D_isAtTheLikeOf_48 : decode prog_2_method_4_code 48 = .ok (.aload_n 0, 1) := by decide +kernel
theorem d_D_isAtTheLikeOf_49 : decode prog_2_method_4_code 49 = .ok (.getfield 37, 3) := by decide +kernel
theorem d_D_isAtTheLikeOf_52 : decode prog_2_method_4_code 52 = .ok (.aload_n 1, 1) := by decide +kernel
theorem d_D_isAtTheLikeOf_53 : decode prog_2_method_4_code 53 = .ok (.getfield 37, 3) := by decide +kernel
theorem d_D_isAtTheLikeOf_56 : decode prog_2_method_4_code 56 = .ok (.if_icmp .ne 7, 3) := by decide +kernel
theorem d_D_isAtTheLikeOf_59 : decode prog_2_method_4_code 59 = .ok (.iconst 1, 1) := by decide +kernel
theorem d_D_isAtTheLikeOf_60 : decode prog_2_method_4_code 60 = .ok (.goto 4, 3) := by decide +kernel
theorem d_D_isAtTheLikeOf_63 : decode prog_2_method_4_code 63 = .ok (.iconst 0, 1) := by decide +kernel
theorem d_D_isAtTheLikeOf_64 : decode prog_2_method_4_code 64 = .ok (.ireturn, 1) := by decide +kernel
end
section
theorem d_B_init_0 : decode prog_1_method_1_code 0 = .ok (.aload_n 0, 1) := by decide +kernel
theorem d_B_init_1 : decode prog_1_method_1_code 1 = .ok (.invokespecial 3, 3) := by decide +kernel
theorem d_B_init_4 : decode prog_1_method_1_code 4 = .ok (.aload_n 0, 1) := by decide +kernel
theorem d_B_init_5 : decode prog_1_method_1_code 5 = .ok (.new 9, 3) := by decide +kernel
theorem d_B_init_8 : decode prog_1_method_1_code 8 = .ok (.dup, 1) := by decide +kernel
theorem d_B_init_9 : decode prog_1_method_1_code 9 = .ok (.invokespecial 11, 3) := by decide +kernel
theorem d_B_init_12 : decode prog_1_method_1_code 12 = .ok (.putfield 12, 3) := by decide +kernel
theorem d_B_init_15 : decode prog_1_method_1_code 15 = .ok (.aload_n 0, 1) := by decide +kernel
theorem d_B_init_16 : decode prog_1_method_1_code 16 = .ok (.new 9, 3) := by decide +kernel
theorem d_B_init_19 : decode prog_1_method_1_code 19 = .ok (.dup, 1) := by decide +kernel
theorem d_B_init_20 : decode prog_1_method_1_code 20 = .ok (.invokespecial 11, 3) := by decide +kernel
theorem d_B_init_23 : decode prog_1_method_1_code 23 = .ok (.putfield 16, 3) := by decide +kernel
theorem d_B_init_26 : decode prog_1_method_1_code 26 = .ok (.aload_n 0, 1) := by decide +kernel
theorem d_B_init_27 : decode prog_1_method_1_code 27 = .ok (.iconst 0, 1) := by decide +kernel
theorem d_B_init_28 : decode prog_1_method_1_code 28 = .ok (.putfield 19, 3) := by decide +kernel
theorem d_B_init_31 : decode prog_1_method_1_code 31 = .ok (.aload_n 0, 1) := by decide +kernel
theorem d_B_init_32 : decode prog_1_method_1_code 32 = .ok (.bipush 62, 2) := by decide +kernel
theorem d_B_init_34 : decode prog_1_method_1_code 34 = .ok (.newarray .int, 2) := by decide +kernel
theorem d_B_init_36 : decode prog_1_method_1_code 36 = .ok (.putfield 23, 3) := by decide +kernel
theorem d_B_init_39 : decode prog_1_method_1_code 39 = .ok (.aload_n 0, 1) := by decide +kernel
theorem d_B_init_40 : decode prog_1_method_1_code 40 = .ok (.bipush 62, 2) := by decide +kernel
theorem d_B_init_42 : decode prog_1_method_1_code 42 = .ok (.newarray .int, 2) := by decide +kernel
theorem d_B_init_44 : decode prog_1_method_1_code 44 = .ok (.putfield 27, 3) := by decide +kernel
theorem d_B_init_47 : decode prog_1_method_1_code 47 = .ok (.aload_n 0, 1) := by decide +kernel
theorem d_B_init_48 : decode prog_1_method_1_code 48 = .ok (.bipush 62, 2) := by decide +kernel
theorem d_B_init_50 : decode prog_1_method_1_code 50 = .ok (.newarray .int, 2) := by decide +kernel
theorem d_B_init_52 : decode prog_1_method_1_code 52 = .ok (.putfield 30, 3) := by decide +kernel
theorem d_B_init_55 : decode prog_1_method_1_code 55 = .ok (.aload_n 0, 1) := by decide +kernel
theorem d_B_init_56 : decode prog_1_method_1_code 56 = .ok (.bipush 62, 2) := by decide +kernel
theorem d_B_init_58 : decode prog_1_method_1_code 58 = .ok (.newarray .int, 2) := by decide +kernel
theorem d_B_init_60 : decode prog_1_method_1_code 60 = .ok (.putfield 33, 3) := by decide +kernel
theorem d_B_init_63 : decode prog_1_method_1_code 63 = .ok (.aload_n 0, 1) := by decide +kernel
theorem d_B_init_64 : decode prog_1_method_1_code 64 = .ok (.bipush 62, 2) := by decide +kernel
theorem d_B_init_66 : decode prog_1_method_1_code 66 = .ok (.newarray .int, 2) := by decide +kernel
theorem d_B_init_68 : decode prog_1_method_1_code 68 = .ok (.putfield 36, 3) := by decide +kernel
theorem d_B_init_71 : decode prog_1_method_1_code 71 = .ok (.aload_n 0, 1) := by decide +kernel
theorem d_B_init_72 : decode prog_1_method_1_code 72 = .ok (.bipush 62, 2) := by decide +kernel
theorem d_B_init_74 : decode prog_1_method_1_code 74 = .ok (.newarray .boolean, 2) := by decide +kernel
theorem d_B_init_76 : decode prog_1_method_1_code 76 = .ok (.putfield 39, 3) := by decide +kernel
theorem d_B_init_79 : decode prog_1_method_1_code 79 = .ok (.aload_n 0, 1) := by decide +kernel
theorem d_B_init_80 : decode prog_1_method_1_code 80 = .ok (.iconst 0, 1) := by decide +kernel
theorem d_B_init_81 : decode prog_1_method_1_code 81 = .ok (.putfield 43, 3) := by decide +kernel
theorem d_B_init_84 : decode prog_1_method_1_code 84 = .ok (.aload_n 0, 1) := by decide +kernel
theorem d_B_init_85 : decode prog_1_method_1_code 85 = .ok (.iconst 1, 1) := by decide +kernel
theorem d_B_init_86 : decode prog_1_method_1_code 86 = .ok (.putfield 46, 3) := by decide +kernel
theorem d_B_init_89 : decode prog_1_method_1_code 89 = .ok (.aload_n 0, 1) := by decide +kernel
theorem d_B_init_90 : decode prog_1_method_1_code 90 = .ok (.sipush 992, 3) := by decide +kernel
theorem d_B_init_93 : decode prog_1_method_1_code 93 = .ok (.newarray .char, 2) := by decide +kernel
theorem d_B_init_95 : decode prog_1_method_1_code 95 = .ok (.putfield 50, 3) := by decide +kernel
theorem d_B_init_98 : decode prog_1_method_1_code 98 = .ok (.aload_n 0, 1) := by decide +kernel
theorem d_B_init_99 : decode prog_1_method_1_code 99 = .ok (.iconst (-1), 1) := by decide +kernel
theorem d_B_init_100 : decode prog_1_method_1_code 100 = .ok (.putfield 54, 3) := by decide +kernel
theorem d_B_init_103 : decode prog_1_method_1_code 103 = .ok (.aload_n 0, 1) := by decide +kernel
theorem d_B_init_104 : decode prog_1_method_1_code 104 = .ok (.lload_n 1, 1) := by decide +kernel
theorem d_B_init_105 : decode prog_1_method_1_code 105 = .ok (.putfield 57, 3) := by decide +kernel
theorem d_B_init_108 : decode prog_1_method_1_code 108 = .ok (.return_, 1) := by decide +kernel
theorem d_B_draw_0 : decode prog_1_method_2_code 0 = .ok (.iload_n 1, 1) := by decide +kernel
theorem d_B_draw_1 : decode prog_1_method_2_code 1 = .ok (.iload_n 2, 1) := by decide +kernel
theorem d_B_draw_2 : decode prog_1_method_2_code 2 = .ok (.invokestatic 61, 3) := by decide +kernel
theorem d_B_draw_5 : decode prog_1_method_2_code 5 = .ok (.ifCond .ne 6, 3) := by decide +kernel
theorem d_B_draw_8 : decode prog_1_method_2_code 8 = .ok (.bipush (-2), 2) := by decide +kernel
theorem d_B_draw_10 : decode prog_1_method_2_code 10 = .ok (.ireturn, 1) := by decide +kernel
theorem d_B_draw_11 : decode prog_1_method_2_code 11 = .ok (.aload_n 0, 1) := by decide +kernel
theorem d_B_draw_12 : decode prog_1_method_2_code 12 = .ok (.getfield 12, 3) := by decide +kernel
theorem d_B_draw_15 : decode prog_1_method_2_code 15 = .ok (.aload_n 0, 1) := by decide +kernel
theorem d_B_draw_16 : decode prog_1_method_2_code 16 = .ok (.getfield 57, 3) := by decide +kernel
theorem d_B_draw_19 : decode prog_1_method_2_code 19 = .ok (.iload_n 1, 1) := by decide +kernel
theorem d_B_draw_20 : decode prog_1_method_2_code 20 = .ok (.iload_n 2, 1) := by decide +kernel
theorem d_B_draw_21 : decode prog_1_method_2_code 21 = .ok (.invokevirtual 65, 3) := by decide +kernel
theorem d_B_draw_24 : decode prog_1_method_2_code 24 = .ok (.aload_n 0, 1) := by decide +kernel
theorem d_B_draw_25 : decode prog_1_method_2_code 25 = .ok (.iload_n 2, 1) := by decide +kernel
theorem d_B_draw_26 : decode prog_1_method_2_code 26 = .ok (.iconst 2, 1) := by decide +kernel
theorem d_B_draw_27 : decode prog_1_method_2_code 27 = .ok (.iadd, 1) := by decide +kernel
theorem d_B_draw_28 : decode prog_1_method_2_code 28 = .ok (.putfield 19, 3) := by decide +kernel
theorem d_B_draw_31 : decode prog_1_method_2_code 31 = .ok (.iconst 0, 1) := by decide +kernel
theorem d_B_draw_32 : decode prog_1_method_2_code 32 = .ok (.istore_n 3, 1) := by decide +kernel
theorem d_B_draw_33 : decode prog_1_method_2_code 33 = .ok (.iload_n 3, 1) := by decide +kernel
theorem d_B_draw_34 : decode prog_1_method_2_code 34 = .ok (.aload_n 0, 1) := by decide +kernel
theorem d_B_draw_35 : decode prog_1_method_2_code 35 = .ok (.getfield 19, 3) := by decide +kernel
theorem d_B_draw_38 : decode prog_1_method_2_code 38 = .ok (.if_icmp .ge 87, 3) := by decide +kernel
theorem d_B_draw_41 : decode prog_1_method_2_code 41 = .ok (.iload_n 3, 1) := by decide +kernel
theorem d_B_draw_42 : decode prog_1_method_2_code 42 = .ok (.bipush 62, 2) := by decide +kernel
theorem d_B_draw_44 : decode prog_1_method_2_code 44 = .ok (.if_icmp .ge 81, 3) := by decide +kernel
theorem d_B_draw_47 : decode prog_1_method_2_code 47 = .ok (.aload_n 0, 1) := by decide +kernel
theorem d_B_draw_48 : decode prog_1_method_2_code 48 = .ok (.getfield 12, 3) := by decide +kernel
theorem d_B_draw_51 : decode prog_1_method_2_code 51 = .ok (.invokevirtual 69, 3) := by decide +kernel
theorem d_B_draw_54 : decode prog_1_method_2_code 54 = .ok (.aload_n 0, 1) := by decide +kernel
theorem d_B_draw_55 : decode prog_1_method_2_code 55 = .ok (.getfield 23, 3) := by decide +kernel
theorem d_B_draw_58 : decode prog_1_method_2_code 58 = .ok (.iload_n 3, 1) := by decide +kernel
theorem d_B_draw_59 : decode prog_1_method_2_code 59 = .ok (.aload_n 0, 1) := by decide +kernel
theorem d_B_draw_60 : decode prog_1_method_2_code 60 = .ok (.getfield 12, 3) := by decide +kernel
theorem d_B_draw_63 : decode prog_1_method_2_code 63 = .ok (.getfield 72, 3) := by decide +kernel
theorem d_B_draw_66 : decode prog_1_method_2_code 66 = .ok (.iastore, 1) := by decide +kernel
theorem d_B_draw_67 : decode prog_1_method_2_code 67 = .ok (.aload_n 0, 1) := by decide +kernel
theorem d_B_draw_68 : decode prog_1_method_2_code 68 = .ok (.getfield 27, 3) := by decide +kernel
theorem d_B_draw_71 : decode prog_1_method_2_code 71 = .ok (.iload_n 3, 1) := by decide +kernel
theorem d_B_draw_72 : decode prog_1_method_2_code 72 = .ok (.aload_n 0, 1) := by decide +kernel
theorem d_B_draw_73 : decode prog_1_method_2_code 73 = .ok (.getfield 12, 3) := by decide +kernel
theorem d_B_draw_76 : decode prog_1_method_2_code 76 = .ok (.getfield 75, 3) := by decide +kernel
theorem d_B_draw_79 : decode prog_1_method_2_code 79 = .ok (.iastore, 1) := by decide +kernel
theorem d_B_draw_80 : decode prog_1_method_2_code 80 = .ok (.aload_n 0, 1) := by decide +kernel
theorem d_B_draw_81 : decode prog_1_method_2_code 81 = .ok (.getfield 30, 3) := by decide +kernel
theorem d_B_draw_84 : decode prog_1_method_2_code 84 = .ok (.iload_n 3, 1) := by decide +kernel
theorem d_B_draw_85 : decode prog_1_method_2_code 85 = .ok (.aload_n 0, 1) := by decide +kernel
theorem d_B_draw_86 : decode prog_1_method_2_code 86 = .ok (.getfield 12, 3) := by decide +kernel
theorem d_B_draw_89 : decode prog_1_method_2_code 89 = .ok (.getfield 78, 3) := by decide +kernel
theorem d_B_draw_92 : decode prog_1_method_2_code 92 = .ok (.iastore, 1) := by decide +kernel
theorem d_B_draw_93 : decode prog_1_method_2_code 93 = .ok (.aload_n 0, 1) := by decide +kernel
theorem d_B_draw_94 : decode prog_1_method_2_code 94 = .ok (.getfield 33, 3) := by decide +kernel
theorem d_B_draw_97 : decode prog_1_method_2_code 97 = .ok (.iload_n 3, 1) := by decide +kernel
theorem d_B_draw_98 : decode prog_1_method_2_code 98 = .ok (.aload_n 0, 1) := by decide +kernel
theorem d_B_draw_99 : decode prog_1_method_2_code 99 = .ok (.getfield 12, 3) := by decide +kernel
theorem d_B_draw_102 : decode prog_1_method_2_code 102 = .ok (.getfield 81, 3) := by decide +kernel
theorem d_B_draw_105 : decode prog_1_method_2_code 105 = .ok (.iastore, 1) := by decide +kernel
theorem d_B_draw_106 : decode prog_1_method_2_code 106 = .ok (.aload_n 0, 1) := by decide +kernel
theorem d_B_draw_107 : decode prog_1_method_2_code 107 = .ok (.getfield 36, 3) := by decide +kernel
theorem d_B_draw_110 : decode prog_1_method_2_code 110 = .ok (.iload_n 3, 1) := by decide +kernel
theorem d_B_draw_111 : decode prog_1_method_2_code 111 = .ok (.aload_n 0, 1) := by decide +kernel
theorem d_B_draw_112 : decode prog_1_method_2_code 112 = .ok (.getfield 12, 3) := by decide +kernel
theorem d_B_draw_115 : decode prog_1_method_2_code 115 = .ok (.getfield 84, 3) := by decide +kernel
theorem d_B_draw_118 : decode prog_1_method_2_code 118 = .ok (.iastore, 1) := by decide +kernel
theorem d_B_draw_119 : decode prog_1_method_2_code 119 = .ok (.iinc 3 1, 3) := by decide +kernel
theorem d_B_draw_122 : decode prog_1_method_2_code 122 = .ok (.goto (-89), 3) := by decide +kernel
theorem d_B_draw_125 : decode prog_1_method_2_code 125 = .ok (.aload_n 0, 1) := by decide +kernel
theorem d_B_draw_126 : decode prog_1_method_2_code 126 = .ok (.invokevirtual 87, 3) := by decide +kernel
theorem d_B_draw_129 : decode prog_1_method_2_code 129 = .ok (.aload_n 0, 1) := by decide +kernel
theorem d_B_draw_130 : decode prog_1_method_2_code 130 = .ok (.getfield 19, 3) := by decide +kernel
theorem d_B_draw_133 : decode prog_1_method_2_code 133 = .ok (.ireturn, 1) := by decide +kernel
theorem d_B_canBeDrawn_0 : decode prog_1_method_10_code 0 = .ok (.iload_n 0, 1) := by decide +kernel
theorem d_B_canBeDrawn_1 : decode prog_1_method_10_code 1 = .ok (.ifCond .lt 23, 3) := by decide +kernel
theorem d_B_canBeDrawn_4 : decode prog_1_method_10_code 4 = .ok (.iload_n 0, 1) := by decide +kernel
theorem d_B_canBeDrawn_5 : decode prog_1_method_10_code 5 = .ok (.bipush 8, 2) := by decide +kernel
theorem d_B_canBeDrawn_7 : decode prog_1_method_10_code 7 = .ok (.if_icmp .ge 17, 3) := by decide +kernel
theorem d_B_canBeDrawn_10 : decode prog_1_method_10_code 10 = .ok (.iload_n 1, 1) := by decide +kernel
theorem d_B_canBeDrawn_11 : decode prog_1_method_10_code 11 = .ok (.ifCond .lt 13, 3) := by decide +kernel
theorem d_B_canBeDrawn_14 : decode prog_1_method_10_code 14 = .ok (.iload_n 1, 1) := by decide +kernel
theorem d_B_canBeDrawn_15 : decode prog_1_method_10_code 15 = .ok (.bipush 60, 2) := by decide +kernel
theorem d_B_canBeDrawn_17 : decode prog_1_method_10_code 17 = .ok (.if_icmp .gt 7, 3) := by decide +kernel
theorem d_B_canBeDrawn_20 : decode prog_1_method_10_code 20 = .ok (.iconst 1, 1) := by decide +kernel
theorem d_B_canBeDrawn_21 : decode prog_1_method_10_code 21 = .ok (.goto 4, 3) := by decide +kernel
theorem d_B_canBeDrawn_24 : decode prog_1_method_10_code 24 = .ok (.iconst 0, 1) := by decide +kernel
theorem d_B_canBeDrawn_25 : decode prog_1_method_10_code 25 = .ok (.ireturn, 1) := by decide +kernel
theorem d_B_takeAllBack_0 : decode prog_1_method_12_code 0 = .ok (.iconst 0, 1) := by decide +kernel
theorem d_B_takeAllBack_1 : decode prog_1_method_12_code 1 = .ok (.istore_n 1, 1) := by decide +kernel
theorem d_B_takeAllBack_2 : decode prog_1_method_12_code 2 = .ok (.iload_n 1, 1) := by decide +kernel
theorem d_B_takeAllBack_3 : decode prog_1_method_12_code 3 = .ok (.aload_n 0, 1) := by decide +kernel
theorem d_B_takeAllBack_4 : decode prog_1_method_12_code 4 = .ok (.getfield 19, 3) := by decide +kernel
theorem d_B_takeAllBack_7 : decode prog_1_method_12_code 7 = .ok (.if_icmp .ge 22, 3) := by decide +kernel
theorem d_B_takeAllBack_10 : decode prog_1_method_12_code 10 = .ok (.iload_n 1, 1) := by decide +kernel
theorem d_B_takeAllBack_11 : decode prog_1_method_12_code 11 = .ok (.bipush 62, 2) := by decide +kernel
theorem d_B_takeAllBack_13 : decode prog_1_method_12_code 13 = .ok (.if_icmp .ge 16, 3) := by decide +kernel
theorem d_B_takeAllBack_16 : decode prog_1_method_12_code 16 = .ok (.aload_n 0, 1) := by decide +kernel
theorem d_B_takeAllBack_17 : decode prog_1_method_12_code 17 = .ok (.getfield 39, 3) := by decide +kernel
theorem d_B_takeAllBack_20 : decode prog_1_method_12_code 20 = .ok (.iload_n 1, 1) := by decide +kernel
theorem d_B_takeAllBack_21 : decode prog_1_method_12_code 21 = .ok (.iconst 1, 1) := by decide +kernel
theorem d_B_takeAllBack_22 : decode prog_1_method_12_code 22 = .ok (.bastore, 1) := by decide +kernel
theorem d_B_takeAllBack_23 : decode prog_1_method_12_code 23 = .ok (.iinc 1 1, 3) := by decide +kernel
theorem d_B_takeAllBack_26 : decode prog_1_method_12_code 26 = .ok (.goto (-24), 3) := by decide +kernel
theorem d_B_takeAllBack_29 : decode prog_1_method_12_code 29 = .ok (.aload_n 0, 1) := by decide +kernel
theorem d_B_takeAllBack_30 : decode prog_1_method_12_code 30 = .ok (.iconst (-1), 1) := by decide +kernel
theorem d_B_takeAllBack_31 : decode prog_1_method_12_code 31 = .ok (.putfield 54, 3) := by decide +kernel
theorem d_B_takeAllBack_34 : decode prog_1_method_12_code 34 = .ok (.return_, 1) := by decide +kernel
theorem d_B_part_0 : decode prog_1_method_3_code 0 = .ok (.aload_n 0, 1) := by decide +kernel
theorem d_B_part_1 : decode prog_1_method_3_code 1 = .ok (.iload_n 1, 1) := by decide +kernel
theorem d_B_part_2 : decode prog_1_method_3_code 2 = .ok (.invokevirtual 90, 3) := by decide +kernel
theorem d_B_part_5 : decode prog_1_method_3_code 5 = .ok (.ifCond .ne 7, 3) := by decide +kernel
theorem d_B_part_8 : decode prog_1_method_3_code 8 = .ok (.ldc2_w 94, 3) := by decide +kernel
theorem d_B_part_11 : decode prog_1_method_3_code 11 = .ok (.lreturn, 1) := by decide +kernel
theorem d_B_part_12 : decode prog_1_method_3_code 12 = .ok (.iload_n 2, 1) := by decide +kernel
theorem d_B_part_13 : decode prog_1_method_3_code 13 = .ok (.tableswitch 107 0 6 #[43, 51, 59, 67, 75, 83, 98], 43) := by decide +kernel
theorem d_B_part_56 : decode prog_1_method_3_code 56 = .ok (.aload_n 0, 1) := by decide +kernel
theorem d_B_part_57 : decode prog_1_method_3_code 57 = .ok (.getfield 23, 3) := by decide +kernel
theorem d_B_part_60 : decode prog_1_method_3_code 60 = .ok (.iload_n 1, 1) := by decide +kernel
theorem d_B_part_61 : decode prog_1_method_3_code 61 = .ok (.iaload, 1) := by decide +kernel
theorem d_B_part_62 : decode prog_1_method_3_code 62 = .ok (.i2l, 1) := by decide +kernel
theorem d_B_part_63 : decode prog_1_method_3_code 63 = .ok (.lreturn, 1) := by decide +kernel
theorem d_B_part_64 : decode prog_1_method_3_code 64 = .ok (.aload_n 0, 1) := by decide +kernel
theorem d_B_part_65 : decode prog_1_method_3_code 65 = .ok (.getfield 27, 3) := by decide +kernel
theorem d_B_part_68 : decode prog_1_method_3_code 68 = .ok (.iload_n 1, 1) := by decide +kernel
theorem d_B_part_69 : decode prog_1_method_3_code 69 = .ok (.iaload, 1) := by decide +kernel
theorem d_B_part_70 : decode prog_1_method_3_code 70 = .ok (.i2l, 1) := by decide +kernel
theorem d_B_part_71 : decode prog_1_method_3_code 71 = .ok (.lreturn, 1) := by decide +kernel
theorem d_B_part_72 : decode prog_1_method_3_code 72 = .ok (.aload_n 0, 1) := by decide +kernel
theorem d_B_part_73 : decode prog_1_method_3_code 73 = .ok (.getfield 30, 3) := by decide +kernel
theorem d_B_part_76 : decode prog_1_method_3_code 76 = .ok (.iload_n 1, 1) := by decide +kernel
theorem d_B_part_77 : decode prog_1_method_3_code 77 = .ok (.iaload, 1) := by decide +kernel
theorem d_B_part_78 : decode prog_1_method_3_code 78 = .ok (.i2l, 1) := by decide +kernel
theorem d_B_part_79 : decode prog_1_method_3_code 79 = .ok (.lreturn, 1) := by decide +kernel
theorem d_B_part_80 : decode prog_1_method_3_code 80 = .ok (.aload_n 0, 1) := by decide +kernel
theorem d_B_part_81 : decode prog_1_method_3_code 81 = .ok (.getfield 33, 3) := by decide +kernel
theorem d_B_part_84 : decode prog_1_method_3_code 84 = .ok (.iload_n 1, 1) := by decide +kernel
theorem d_B_part_85 : decode prog_1_method_3_code 85 = .ok (.iaload, 1) := by decide +kernel
theorem d_B_part_86 : decode prog_1_method_3_code 86 = .ok (.i2l, 1) := by decide +kernel
theorem d_B_part_87 : decode prog_1_method_3_code 87 = .ok (.lreturn, 1) := by decide +kernel
theorem d_B_part_88 : decode prog_1_method_3_code 88 = .ok (.aload_n 0, 1) := by decide +kernel
theorem d_B_part_89 : decode prog_1_method_3_code 89 = .ok (.getfield 36, 3) := by decide +kernel
theorem d_B_part_92 : decode prog_1_method_3_code 92 = .ok (.iload_n 1, 1) := by decide +kernel
theorem d_B_part_93 : decode prog_1_method_3_code 93 = .ok (.iaload, 1) := by decide +kernel
theorem d_B_part_94 : decode prog_1_method_3_code 94 = .ok (.i2l, 1) := by decide +kernel
theorem d_B_part_95 : decode prog_1_method_3_code 95 = .ok (.lreturn, 1) := by decide +kernel
theorem d_B_part_96 : decode prog_1_method_3_code 96 = .ok (.aload_n 0, 1) := by decide +kernel
theorem d_B_part_97 : decode prog_1_method_3_code 97 = .ok (.getfield 39, 3) := by decide +kernel
theorem d_B_part_100 : decode prog_1_method_3_code 100 = .ok (.iload_n 1, 1) := by decide +kernel
theorem d_B_part_101 : decode prog_1_method_3_code 101 = .ok (.baload, 1) := by decide +kernel
theorem d_B_part_102 : decode prog_1_method_3_code 102 = .ok (.ifCond .eq 7, 3) := by decide +kernel
theorem d_B_part_105 : decode prog_1_method_3_code 105 = .ok (.lconst 1, 1) := by decide +kernel
theorem d_B_part_106 : decode prog_1_method_3_code 106 = .ok (.goto 4, 3) := by decide +kernel
theorem d_B_part_109 : decode prog_1_method_3_code 109 = .ok (.lconst 0, 1) := by decide +kernel
theorem d_B_part_110 : decode prog_1_method_3_code 110 = .ok (.lreturn, 1) := by decide +kernel
theorem d_B_part_111 : decode prog_1_method_3_code 111 = .ok (.aload_n 0, 1) := by decide +kernel
theorem d_B_part_112 : decode prog_1_method_3_code 112 = .ok (.invokevirtual 96, 3) := by decide +kernel
theorem d_B_part_115 : decode prog_1_method_3_code 115 = .ok (.invokestatic 100, 3) := by decide +kernel
theorem d_B_part_118 : decode prog_1_method_3_code 118 = .ok (.i2l, 1) := by decide +kernel
theorem d_B_part_119 : decode prog_1_method_3_code 119 = .ok (.lreturn, 1) := by decide +kernel
theorem d_B_part_120 : decode prog_1_method_3_code 120 = .ok (.ldc2_w 106, 3) := by decide +kernel
theorem d_B_part_123 : decode prog_1_method_3_code 123 = .ok (.lreturn, 1) := by decide +kernel
theorem d_B_isPart_0 : decode prog_1_method_11_code 0 = .ok (.iload_n 1, 1) := by decide +kernel
theorem d_B_isPart_1 : decode prog_1_method_11_code 1 = .ok (.ifCond .lt 21, 3) := by decide +kernel
theorem d_B_isPart_4 : decode prog_1_method_11_code 4 = .ok (.iload_n 1, 1) := by decide +kernel
theorem d_B_isPart_5 : decode prog_1_method_11_code 5 = .ok (.aload_n 0, 1) := by decide +kernel
theorem d_B_isPart_6 : decode prog_1_method_11_code 6 = .ok (.getfield 19, 3) := by decide +kernel
theorem d_B_isPart_9 : decode prog_1_method_11_code 9 = .ok (.if_icmp .ge 13, 3) := by decide +kernel
theorem d_B_isPart_12 : decode prog_1_method_11_code 12 = .ok (.iload_n 1, 1) := by decide +kernel
theorem d_B_isPart_13 : decode prog_1_method_11_code 13 = .ok (.bipush 62, 2) := by decide +kernel
theorem d_B_isPart_15 : decode prog_1_method_11_code 15 = .ok (.if_icmp .ge 7, 3) := by decide +kernel
theorem d_B_isPart_18 : decode prog_1_method_11_code 18 = .ok (.iconst 1, 1) := by decide +kernel
theorem d_B_isPart_19 : decode prog_1_method_11_code 19 = .ok (.goto 4, 3) := by decide +kernel
theorem d_B_isPart_22 : decode prog_1_method_11_code 22 = .ok (.iconst 0, 1) := by decide +kernel
theorem d_B_isPart_23 : decode prog_1_method_11_code 23 = .ok (.ireturn, 1) := by decide +kernel
theorem d_B_commonSet_0 : decode prog_1_method_15_code 0 = .ok (.sipush 255, 3) := by decide +kernel
theorem d_B_commonSet_3 : decode prog_1_method_15_code 3 = .ok (.istore_n 1, 1) := by decide +kernel
theorem d_B_commonSet_4 : decode prog_1_method_15_code 4 = .ok (.iconst 0, 1) := by decide +kernel
theorem d_B_commonSet_5 : decode prog_1_method_15_code 5 = .ok (.istore_n 2, 1) := by decide +kernel
theorem d_B_commonSet_6 : decode prog_1_method_15_code 6 = .ok (.iload_n 2, 1) := by decide +kernel
theorem d_B_commonSet_7 : decode prog_1_method_15_code 7 = .ok (.aload_n 0, 1) := by decide +kernel
theorem d_B_commonSet_8 : decode prog_1_method_15_code 8 = .ok (.getfield 19, 3) := by decide +kernel
theorem d_B_commonSet_11 : decode prog_1_method_15_code 11 = .ok (.if_icmp .ge 43, 3) := by decide +kernel
theorem d_B_commonSet_14 : decode prog_1_method_15_code 14 = .ok (.iload_n 2, 1) := by decide +kernel
theorem d_B_commonSet_15 : decode prog_1_method_15_code 15 = .ok (.bipush 62, 2) := by decide +kernel
theorem d_B_commonSet_17 : decode prog_1_method_15_code 17 = .ok (.if_icmp .ge 37, 3) := by decide +kernel
theorem d_B_commonSet_20 : decode prog_1_method_15_code 20 = .ok (.aload_n 0, 1) := by decide +kernel
theorem d_B_commonSet_21 : decode prog_1_method_15_code 21 = .ok (.getfield 39, 3) := by decide +kernel
theorem d_B_commonSet_24 : decode prog_1_method_15_code 24 = .ok (.iload_n 2, 1) := by decide +kernel
theorem d_B_commonSet_25 : decode prog_1_method_15_code 25 = .ok (.baload, 1) := by decide +kernel
theorem d_B_commonSet_26 : decode prog_1_method_15_code 26 = .ok (.ifCond .eq 22, 3) := by decide +kernel
theorem d_B_commonSet_29 : decode prog_1_method_15_code 29 = .ok (.aload_n 0, 1) := by decide +kernel
theorem d_B_commonSet_30 : decode prog_1_method_15_code 30 = .ok (.getfield 23, 3) := by decide +kernel
theorem d_B_commonSet_33 : decode prog_1_method_15_code 33 = .ok (.iload_n 2, 1) := by decide +kernel
theorem d_B_commonSet_34 : decode prog_1_method_15_code 34 = .ok (.iaload, 1) := by decide +kernel
theorem d_B_commonSet_35 : decode prog_1_method_15_code 35 = .ok (.iconst 2, 1) := by decide +kernel
theorem d_B_commonSet_36 : decode prog_1_method_15_code 36 = .ok (.if_icmp .ne 12, 3) := by decide +kernel
theorem d_B_commonSet_39 : decode prog_1_method_15_code 39 = .ok (.iload_n 1, 1) := by decide +kernel
theorem d_B_commonSet_40 : decode prog_1_method_15_code 40 = .ok (.aload_n 0, 1) := by decide +kernel
theorem d_B_commonSet_41 : decode prog_1_method_15_code 41 = .ok (.getfield 30, 3) := by decide +kernel
theorem d_B_commonSet_44 : decode prog_1_method_15_code 44 = .ok (.iload_n 2, 1) := by decide +kernel
theorem d_B_commonSet_45 : decode prog_1_method_15_code 45 = .ok (.iaload, 1) := by decide +kernel
theorem d_B_commonSet_46 : decode prog_1_method_15_code 46 = .ok (.iand, 1) := by decide +kernel
theorem d_B_commonSet_47 : decode prog_1_method_15_code 47 = .ok (.istore_n 1, 1) := by decide +kernel
theorem d_B_commonSet_48 : decode prog_1_method_15_code 48 = .ok (.iinc 2 1, 3) := by decide +kernel
theorem d_B_commonSet_51 : decode prog_1_method_15_code 51 = .ok (.goto (-45), 3) := by decide +kernel
theorem d_B_commonSet_54 : decode prog_1_method_15_code 54 = .ok (.iload_n 1, 1) := by decide +kernel
theorem d_B_commonSet_55 : decode prog_1_method_15_code 55 = .ok (.ireturn, 1) := by decide +kernel
theorem d_B_letter_0 : decode prog_1_method_4_code 0 = .ok (.aload_n 0, 1) := by decide +kernel
theorem d_B_letter_1 : decode prog_1_method_4_code 1 = .ok (.getfield 54, 3) := by decide +kernel
theorem d_B_letter_4 : decode prog_1_method_4_code 4 = .ok (.iconst (-1), 1) := by decide +kernel
theorem d_B_letter_5 : decode prog_1_method_4_code 5 = .ok (.if_icmp .ne 7, 3) := by decide +kernel
theorem d_B_letter_8 : decode prog_1_method_4_code 8 = .ok (.aload_n 0, 1) := by decide +kernel
theorem d_B_letter_9 : decode prog_1_method_4_code 9 = .ok (.invokevirtual 108, 3) := by decide +kernel
theorem d_B_letter_12 : decode prog_1_method_4_code 12 = .ok (.iload_n 1, 1) := by decide +kernel
theorem d_B_letter_13 : decode prog_1_method_4_code 13 = .ok (.ifCond .lt 18, 3) := by decide +kernel
theorem d_B_letter_16 : decode prog_1_method_4_code 16 = .ok (.iload_n 1, 1) := by decide +kernel
theorem d_B_letter_17 : decode prog_1_method_4_code 17 = .ok (.aload_n 0, 1) := by decide +kernel
theorem d_B_letter_18 : decode prog_1_method_4_code 18 = .ok (.getfield 54, 3) := by decide +kernel
theorem d_B_letter_21 : decode prog_1_method_4_code 21 = .ok (.if_icmp .ge 10, 3) := by decide +kernel
theorem d_B_letter_24 : decode prog_1_method_4_code 24 = .ok (.iload_n 1, 1) := by decide +kernel
theorem d_B_letter_25 : decode prog_1_method_4_code 25 = .ok (.sipush 992, 3) := by decide +kernel
theorem d_B_letter_28 : decode prog_1_method_4_code 28 = .ok (.if_icmp .lt 5, 3) := by decide +kernel
theorem d_B_letter_31 : decode prog_1_method_4_code 31 = .ok (.iconst (-1), 1) := by decide +kernel
theorem d_B_letter_32 : decode prog_1_method_4_code 32 = .ok (.ireturn, 1) := by decide +kernel
theorem d_B_letter_33 : decode prog_1_method_4_code 33 = .ok (.aload_n 0, 1) := by decide +kernel
theorem d_B_letter_34 : decode prog_1_method_4_code 34 = .ok (.getfield 50, 3) := by decide +kernel
theorem d_B_letter_37 : decode prog_1_method_4_code 37 = .ok (.iload_n 1, 1) := by decide +kernel
theorem d_B_letter_38 : decode prog_1_method_4_code 38 = .ok (.caload, 1) := by decide +kernel
theorem d_B_letter_39 : decode prog_1_method_4_code 39 = .ok (.ireturn, 1) := by decide +kernel
theorem d_B_writeText_0 : decode prog_1_method_20_code 0 = .ok (.aload_n 0, 1) := by decide +kernel
theorem d_B_writeText_1 : decode prog_1_method_20_code 1 = .ok (.iconst 0, 1) := by decide +kernel
theorem d_B_writeText_2 : decode prog_1_method_20_code 2 = .ok (.putfield 54, 3) := by decide +kernel
theorem d_B_writeText_5 : decode prog_1_method_20_code 5 = .ok (.iconst 0, 1) := by decide +kernel
theorem d_B_writeText_6 : decode prog_1_method_20_code 6 = .ok (.istore_n 1, 1) := by decide +kernel
theorem d_B_writeText_7 : decode prog_1_method_20_code 7 = .ok (.iload_n 1, 1) := by decide +kernel
theorem d_B_writeText_8 : decode prog_1_method_20_code 8 = .ok (.aload_n 0, 1) := by decide +kernel
theorem d_B_writeText_9 : decode prog_1_method_20_code 9 = .ok (.getfield 19, 3) := by decide +kernel
theorem d_B_writeText_12 : decode prog_1_method_20_code 12 = .ok (.if_icmp .ge 31, 3) := by decide +kernel
theorem d_B_writeText_15 : decode prog_1_method_20_code 15 = .ok (.aload_n 0, 1) := by decide +kernel
theorem d_B_writeText_16 : decode prog_1_method_20_code 16 = .ok (.iload_n 1, 1) := by decide +kernel
theorem d_B_writeText_17 : decode prog_1_method_20_code 17 = .ok (.invokevirtual 90, 3) := by decide +kernel
theorem d_B_writeText_20 : decode prog_1_method_20_code 20 = .ok (.ifCond .eq 17, 3) := by decide +kernel
theorem d_B_writeText_23 : decode prog_1_method_20_code 23 = .ok (.aload_n 0, 1) := by decide +kernel
theorem d_B_writeText_24 : decode prog_1_method_20_code 24 = .ok (.getfield 39, 3) := by decide +kernel
theorem d_B_writeText_27 : decode prog_1_method_20_code 27 = .ok (.iload_n 1, 1) := by decide +kernel
theorem d_B_writeText_28 : decode prog_1_method_20_code 28 = .ok (.baload, 1) := by decide +kernel
theorem d_B_writeText_29 : decode prog_1_method_20_code 29 = .ok (.ifCond .eq 8, 3) := by decide +kernel
theorem d_B_writeText_32 : decode prog_1_method_20_code 32 = .ok (.aload_n 0, 1) := by decide +kernel
theorem d_B_writeText_33 : decode prog_1_method_20_code 33 = .ok (.iload_n 1, 1) := by decide +kernel
theorem d_B_writeText_34 : decode prog_1_method_20_code 34 = .ok (.invokevirtual 134, 3) := by decide +kernel
theorem d_B_writeText_37 : decode prog_1_method_20_code 37 = .ok (.iinc 1 1, 3) := by decide +kernel
theorem d_B_writeText_40 : decode prog_1_method_20_code 40 = .ok (.goto (-33), 3) := by decide +kernel
theorem d_B_writeText_43 : decode prog_1_method_20_code 43 = .ok (.return_, 1) := by decide +kernel
theorem d_B_writePart_0 : decode prog_1_method_21_code 0 = .ok (.aload_n 0, 1) := by decide +kernel
theorem d_B_writePart_1 : decode prog_1_method_21_code 1 = .ok (.iload_n 1, 1) := by decide +kernel
theorem d_B_writePart_2 : decode prog_1_method_21_code 2 = .ok (.invokevirtual 90, 3) := by decide +kernel
theorem d_B_writePart_5 : decode prog_1_method_21_code 5 = .ok (.ifCond .ne 4, 3) := by decide +kernel
theorem d_B_writePart_8 : decode prog_1_method_21_code 8 = .ok (.return_, 1) := by decide +kernel
theorem d_B_writePart_9 : decode prog_1_method_21_code 9 = .ok (.aload_n 0, 1) := by decide +kernel
theorem d_B_writePart_10 : decode prog_1_method_21_code 10 = .ok (.aload_n 0, 1) := by decide +kernel
theorem d_B_writePart_11 : decode prog_1_method_21_code 11 = .ok (.getfield 23, 3) := by decide +kernel
theorem d_B_writePart_14 : decode prog_1_method_21_code 14 = .ok (.iload_n 1, 1) := by decide +kernel
theorem d_B_writePart_15 : decode prog_1_method_21_code 15 = .ok (.iaload, 1) := by decide +kernel
theorem d_B_writePart_16 : decode prog_1_method_21_code 16 = .ok (.invokestatic 138, 3) := by decide +kernel
theorem d_B_writePart_19 : decode prog_1_method_21_code 19 = .ok (.invokevirtual 142, 3) := by decide +kernel
theorem d_B_writePart_22 : decode prog_1_method_21_code 22 = .ok (.aload_n 0, 1) := by decide +kernel
theorem d_B_writePart_23 : decode prog_1_method_21_code 23 = .ok (.iload_n 1, 1) := by decide +kernel
theorem d_B_writePart_24 : decode prog_1_method_21_code 24 = .ok (.invokevirtual 146, 3) := by decide +kernel
theorem d_B_writePart_27 : decode prog_1_method_21_code 27 = .ok (.aload_n 0, 1) := by decide +kernel
theorem d_B_writePart_28 : decode prog_1_method_21_code 28 = .ok (.bipush 40, 2) := by decide +kernel
theorem d_B_writePart_30 : decode prog_1_method_21_code 30 = .ok (.invokevirtual 142, 3) := by decide +kernel
theorem d_B_writePart_33 : decode prog_1_method_21_code 33 = .ok (.aload_n 0, 1) := by decide +kernel
theorem d_B_writePart_34 : decode prog_1_method_21_code 34 = .ok (.aload_n 0, 1) := by decide +kernel
theorem d_B_writePart_35 : decode prog_1_method_21_code 35 = .ok (.getfield 27, 3) := by decide +kernel
theorem d_B_writePart_38 : decode prog_1_method_21_code 38 = .ok (.iload_n 1, 1) := by decide +kernel
theorem d_B_writePart_39 : decode prog_1_method_21_code 39 = .ok (.iaload, 1) := by decide +kernel
theorem d_B_writePart_40 : decode prog_1_method_21_code 40 = .ok (.invokevirtual 146, 3) := by decide +kernel
theorem d_B_writePart_43 : decode prog_1_method_21_code 43 = .ok (.aload_n 0, 1) := by decide +kernel
theorem d_B_writePart_44 : decode prog_1_method_21_code 44 = .ok (.bipush 44, 2) := by decide +kernel
theorem d_B_writePart_46 : decode prog_1_method_21_code 46 = .ok (.invokevirtual 142, 3) := by decide +kernel
theorem d_B_writePart_49 : decode prog_1_method_21_code 49 = .ok (.aload_n 0, 1) := by decide +kernel
theorem d_B_writePart_50 : decode prog_1_method_21_code 50 = .ok (.aload_n 0, 1) := by decide +kernel
theorem d_B_writePart_51 : decode prog_1_method_21_code 51 = .ok (.getfield 30, 3) := by decide +kernel
theorem d_B_writePart_54 : decode prog_1_method_21_code 54 = .ok (.iload_n 1, 1) := by decide +kernel
theorem d_B_writePart_55 : decode prog_1_method_21_code 55 = .ok (.iaload, 1) := by decide +kernel
theorem d_B_writePart_56 : decode prog_1_method_21_code 56 = .ok (.invokevirtual 146, 3) := by decide +kernel
theorem d_B_writePart_59 : decode prog_1_method_21_code 59 = .ok (.aload_n 0, 1) := by decide +kernel
theorem d_B_writePart_60 : decode prog_1_method_21_code 60 = .ok (.bipush 41, 2) := by decide +kernel
theorem d_B_writePart_62 : decode prog_1_method_21_code 62 = .ok (.invokevirtual 142, 3) := by decide +kernel
theorem d_B_writePart_65 : decode prog_1_method_21_code 65 = .ok (.aload_n 0, 1) := by decide +kernel
theorem d_B_writePart_66 : decode prog_1_method_21_code 66 = .ok (.getfield 33, 3) := by decide +kernel
theorem d_B_writePart_69 : decode prog_1_method_21_code 69 = .ok (.iload_n 1, 1) := by decide +kernel
theorem d_B_writePart_70 : decode prog_1_method_21_code 70 = .ok (.iaload, 1) := by decide +kernel
theorem d_B_writePart_71 : decode prog_1_method_21_code 71 = .ok (.iconst (-1), 1) := by decide +kernel
theorem d_B_writePart_72 : decode prog_1_method_21_code 72 = .ok (.if_icmp .eq 19, 3) := by decide +kernel
theorem d_B_writePart_75 : decode prog_1_method_21_code 75 = .ok (.aload_n 0, 1) := by decide +kernel
theorem d_B_writePart_76 : decode prog_1_method_21_code 76 = .ok (.bipush 60, 2) := by decide +kernel
theorem d_B_writePart_78 : decode prog_1_method_21_code 78 = .ok (.invokevirtual 142, 3) := by decide +kernel
theorem d_B_writePart_81 : decode prog_1_method_21_code 81 = .ok (.aload_n 0, 1) := by decide +kernel
theorem d_B_writePart_82 : decode prog_1_method_21_code 82 = .ok (.aload_n 0, 1) := by decide +kernel
theorem d_B_writePart_83 : decode prog_1_method_21_code 83 = .ok (.getfield 33, 3) := by decide +kernel
theorem d_B_writePart_86 : decode prog_1_method_21_code 86 = .ok (.iload_n 1, 1) := by decide +kernel
theorem d_B_writePart_87 : decode prog_1_method_21_code 87 = .ok (.iaload, 1) := by decide +kernel
theorem d_B_writePart_88 : decode prog_1_method_21_code 88 = .ok (.invokevirtual 146, 3) := by decide +kernel
theorem d_B_writePart_91 : decode prog_1_method_21_code 91 = .ok (.aload_n 0, 1) := by decide +kernel
theorem d_B_writePart_92 : decode prog_1_method_21_code 92 = .ok (.bipush 59, 2) := by decide +kernel
theorem d_B_writePart_94 : decode prog_1_method_21_code 94 = .ok (.invokevirtual 142, 3) := by decide +kernel
theorem d_B_writePart_97 : decode prog_1_method_21_code 97 = .ok (.return_, 1) := by decide +kernel
theorem d_B_letterOf_0 : decode prog_1_method_22_code 0 = .ok (.iload_n 0, 1) := by decide +kernel
theorem d_B_letterOf_1 : decode prog_1_method_22_code 1 = .ok (.ifCond .lt 21, 3) := by decide +kernel
theorem d_B_letterOf_4 : decode prog_1_method_22_code 4 = .ok (.iload_n 0, 1) := by decide +kernel
theorem d_B_letterOf_5 : decode prog_1_method_22_code 5 = .ok (.ldc 149, 2) := by decide +kernel
theorem d_B_letterOf_7 : decode prog_1_method_22_code 7 = .ok (.invokevirtual 151, 3) := by decide +kernel
theorem d_B_letterOf_10 : decode prog_1_method_22_code 10 = .ok (.if_icmp .ge 12, 3) := by decide +kernel
theorem d_B_letterOf_13 : decode prog_1_method_22_code 13 = .ok (.ldc 149, 2) := by decide +kernel
theorem d_B_letterOf_15 : decode prog_1_method_22_code 15 = .ok (.iload_n 0, 1) := by decide +kernel
theorem d_B_letterOf_16 : decode prog_1_method_22_code 16 = .ok (.invokevirtual 156, 3) := by decide +kernel
theorem d_B_letterOf_19 : decode prog_1_method_22_code 19 = .ok (.goto 5, 3) := by decide +kernel
theorem d_B_letterOf_22 : decode prog_1_method_22_code 22 = .ok (.bipush 63, 2) := by decide +kernel
theorem d_B_letterOf_24 : decode prog_1_method_22_code 24 = .ok (.ireturn, 1) := by decide +kernel
theorem d_B_writeSign_0 : decode prog_1_method_25_code 0 = .ok (.aload_n 0, 1) := by decide +kernel
theorem d_B_writeSign_1 : decode prog_1_method_25_code 1 = .ok (.getfield 54, 3) := by decide +kernel
theorem d_B_writeSign_4 : decode prog_1_method_25_code 4 = .ok (.ifCond .lt 33, 3) := by decide +kernel
theorem d_B_writeSign_7 : decode prog_1_method_25_code 7 = .ok (.aload_n 0, 1) := by decide +kernel
theorem d_B_writeSign_8 : decode prog_1_method_25_code 8 = .ok (.getfield 54, 3) := by decide +kernel
theorem d_B_writeSign_11 : decode prog_1_method_25_code 11 = .ok (.sipush 992, 3) := by decide +kernel
theorem d_B_writeSign_14 : decode prog_1_method_25_code 14 = .ok (.if_icmp .ge 23, 3) := by decide +kernel
theorem d_B_writeSign_17 : decode prog_1_method_25_code 17 = .ok (.aload_n 0, 1) := by decide +kernel
theorem d_B_writeSign_18 : decode prog_1_method_25_code 18 = .ok (.getfield 50, 3) := by decide +kernel
theorem d_B_writeSign_21 : decode prog_1_method_25_code 21 = .ok (.aload_n 0, 1) := by decide +kernel
theorem d_B_writeSign_22 : decode prog_1_method_25_code 22 = .ok (.getfield 54, 3) := by decide +kernel
theorem d_B_writeSign_25 : decode prog_1_method_25_code 25 = .ok (.iload_n 1, 1) := by decide +kernel
theorem d_B_writeSign_26 : decode prog_1_method_25_code 26 = .ok (.castore, 1) := by decide +kernel
theorem d_B_writeSign_27 : decode prog_1_method_25_code 27 = .ok (.aload_n 0, 1) := by decide +kernel
theorem d_B_writeSign_28 : decode prog_1_method_25_code 28 = .ok (.dup, 1) := by decide +kernel
theorem d_B_writeSign_29 : decode prog_1_method_25_code 29 = .ok (.getfield 54, 3) := by decide +kernel
theorem d_B_writeSign_32 : decode prog_1_method_25_code 32 = .ok (.iconst 1, 1) := by decide +kernel
theorem d_B_writeSign_33 : decode prog_1_method_25_code 33 = .ok (.iadd, 1) := by decide +kernel
theorem d_B_writeSign_34 : decode prog_1_method_25_code 34 = .ok (.putfield 54, 3) := by decide +kernel
theorem d_B_writeSign_37 : decode prog_1_method_25_code 37 = .ok (.return_, 1) := by decide +kernel
theorem d_B_writeNumber_0 : decode prog_1_method_23_code 0 = .ok (.iload_n 1, 1) := by decide +kernel
theorem d_B_writeNumber_1 : decode prog_1_method_23_code 1 = .ok (.bipush 100, 2) := by decide +kernel
theorem d_B_writeNumber_3 : decode prog_1_method_23_code 3 = .ok (.if_icmp .lt 11, 3) := by decide +kernel
theorem d_B_writeNumber_6 : decode prog_1_method_23_code 6 = .ok (.aload_n 0, 1) := by decide +kernel
theorem d_B_writeNumber_7 : decode prog_1_method_23_code 7 = .ok (.iload_n 1, 1) := by decide +kernel
theorem d_B_writeNumber_8 : decode prog_1_method_23_code 8 = .ok (.bipush 100, 2) := by decide +kernel
theorem d_B_writeNumber_10 : decode prog_1_method_23_code 10 = .ok (.idiv, 1) := by decide +kernel
theorem d_B_writeNumber_11 : decode prog_1_method_23_code 11 = .ok (.invokevirtual 159, 3) := by decide +kernel
theorem d_B_writeNumber_14 : decode prog_1_method_23_code 14 = .ok (.iload_n 1, 1) := by decide +kernel
theorem d_B_writeNumber_15 : decode prog_1_method_23_code 15 = .ok (.bipush 10, 2) := by decide +kernel
theorem d_B_writeNumber_17 : decode prog_1_method_23_code 17 = .ok (.if_icmp .lt 14, 3) := by decide +kernel
theorem d_B_writeNumber_20 : decode prog_1_method_23_code 20 = .ok (.aload_n 0, 1) := by decide +kernel
theorem d_B_writeNumber_21 : decode prog_1_method_23_code 21 = .ok (.iload_n 1, 1) := by decide +kernel
theorem d_B_writeNumber_22 : decode prog_1_method_23_code 22 = .ok (.bipush 10, 2) := by decide +kernel
theorem d_B_writeNumber_24 : decode prog_1_method_23_code 24 = .ok (.idiv, 1) := by decide +kernel
theorem d_B_writeNumber_25 : decode prog_1_method_23_code 25 = .ok (.bipush 10, 2) := by decide +kernel
theorem d_B_writeNumber_27 : decode prog_1_method_23_code 27 = .ok (.irem, 1) := by decide +kernel
theorem d_B_writeNumber_28 : decode prog_1_method_23_code 28 = .ok (.invokevirtual 159, 3) := by decide +kernel
theorem d_B_writeNumber_31 : decode prog_1_method_23_code 31 = .ok (.aload_n 0, 1) := by decide +kernel
theorem d_B_writeNumber_32 : decode prog_1_method_23_code 32 = .ok (.iload_n 1, 1) := by decide +kernel
theorem d_B_writeNumber_33 : decode prog_1_method_23_code 33 = .ok (.bipush 10, 2) := by decide +kernel
theorem d_B_writeNumber_35 : decode prog_1_method_23_code 35 = .ok (.irem, 1) := by decide +kernel
theorem d_B_writeNumber_36 : decode prog_1_method_23_code 36 = .ok (.invokevirtual 159, 3) := by decide +kernel
theorem d_B_writeNumber_39 : decode prog_1_method_23_code 39 = .ok (.return_, 1) := by decide +kernel
theorem d_B_writeDigit_0 : decode prog_1_method_24_code 0 = .ok (.aload_n 0, 1) := by decide +kernel
theorem d_B_writeDigit_1 : decode prog_1_method_24_code 1 = .ok (.bipush 48, 2) := by decide +kernel
theorem d_B_writeDigit_3 : decode prog_1_method_24_code 3 = .ok (.iload_n 1, 1) := by decide +kernel
theorem d_B_writeDigit_4 : decode prog_1_method_24_code 4 = .ok (.iadd, 1) := by decide +kernel
theorem d_B_writeDigit_5 : decode prog_1_method_24_code 5 = .ok (.i2c, 1) := by decide +kernel
theorem d_B_writeDigit_6 : decode prog_1_method_24_code 6 = .ok (.invokevirtual 142, 3) := by decide +kernel
theorem d_B_writeDigit_9 : decode prog_1_method_24_code 9 = .ok (.return_, 1) := by decide +kernel
theorem d_B_verdict_0 : decode prog_1_method_5_code 0 = .ok (.aload_n 0, 1) := by decide +kernel
theorem d_B_verdict_1 : decode prog_1_method_5_code 1 = .ok (.iload_n 1, 1) := by decide +kernel
theorem d_B_verdict_2 : decode prog_1_method_5_code 2 = .ok (.sipush 255, 3) := by decide +kernel
theorem d_B_verdict_5 : decode prog_1_method_5_code 5 = .ok (.iand, 1) := by decide +kernel
theorem d_B_verdict_6 : decode prog_1_method_5_code 6 = .ok (.putfield 43, 3) := by decide +kernel
theorem d_B_verdict_9 : decode prog_1_method_5_code 9 = .ok (.aload_n 0, 1) := by decide +kernel
theorem d_B_verdict_10 : decode prog_1_method_5_code 10 = .ok (.iload_n 2, 1) := by decide +kernel
theorem d_B_verdict_11 : decode prog_1_method_5_code 11 = .ok (.putfield 46, 3) := by decide +kernel
theorem d_B_verdict_14 : decode prog_1_method_5_code 14 = .ok (.return_, 1) := by decide +kernel
theorem d_B_shorter_0 : decode prog_1_method_6_code 0 = .ok (.aload_n 0, 1) := by decide +kernel
theorem d_B_shorter_1 : decode prog_1_method_6_code 1 = .ok (.aload_n 0, 1) := by decide +kernel
theorem d_B_shorter_2 : decode prog_1_method_6_code 2 = .ok (.invokevirtual 111, 3) := by decide +kernel
theorem d_B_shorter_5 : decode prog_1_method_6_code 5 = .ok (.invokevirtual 114, 3) := by decide +kernel
theorem d_B_shorter_8 : decode prog_1_method_6_code 8 = .ok (.ifCond .eq 10, 3) := by decide +kernel
theorem d_B_shorter_11 : decode prog_1_method_6_code 11 = .ok (.aload_n 0, 1) := by decide +kernel
theorem d_B_shorter_12 : decode prog_1_method_6_code 12 = .ok (.invokevirtual 117, 3) := by decide +kernel
theorem d_B_shorter_15 : decode prog_1_method_6_code 15 = .ok (.goto 7, 3) := by decide +kernel
theorem d_B_shorter_18 : decode prog_1_method_6_code 18 = .ok (.aload_n 0, 1) := by decide +kernel
theorem d_B_shorter_19 : decode prog_1_method_6_code 19 = .ok (.invokevirtual 87, 3) := by decide +kernel
theorem d_B_shorter_22 : decode prog_1_method_6_code 22 = .ok (.aload_n 0, 1) := by decide +kernel
theorem d_B_shorter_23 : decode prog_1_method_6_code 23 = .ok (.invokevirtual 120, 3) := by decide +kernel
theorem d_B_shorter_26 : decode prog_1_method_6_code 26 = .ok (.ireturn, 1) := by decide +kernel
theorem d_B_marksLeft_0 : decode prog_1_method_14_code 0 = .ok (.iconst 0, 1) := by decide +kernel
theorem d_B_marksLeft_1 : decode prog_1_method_14_code 1 = .ok (.istore_n 1, 1) := by decide +kernel
theorem d_B_marksLeft_2 : decode prog_1_method_14_code 2 = .ok (.iconst 0, 1) := by decide +kernel
theorem d_B_marksLeft_3 : decode prog_1_method_14_code 3 = .ok (.istore_n 2, 1) := by decide +kernel
theorem d_B_marksLeft_4 : decode prog_1_method_14_code 4 = .ok (.iload_n 2, 1) := by decide +kernel
theorem d_B_marksLeft_5 : decode prog_1_method_14_code 5 = .ok (.aload_n 0, 1) := by decide +kernel
theorem d_B_marksLeft_6 : decode prog_1_method_14_code 6 = .ok (.getfield 19, 3) := by decide +kernel
theorem d_B_marksLeft_9 : decode prog_1_method_14_code 9 = .ok (.if_icmp .ge 33, 3) := by decide +kernel
theorem d_B_marksLeft_12 : decode prog_1_method_14_code 12 = .ok (.iload_n 2, 1) := by decide +kernel
theorem d_B_marksLeft_13 : decode prog_1_method_14_code 13 = .ok (.bipush 62, 2) := by decide +kernel
theorem d_B_marksLeft_15 : decode prog_1_method_14_code 15 = .ok (.if_icmp .ge 27, 3) := by decide +kernel
theorem d_B_marksLeft_18 : decode prog_1_method_14_code 18 = .ok (.aload_n 0, 1) := by decide +kernel
theorem d_B_marksLeft_19 : decode prog_1_method_14_code 19 = .ok (.getfield 39, 3) := by decide +kernel
theorem d_B_marksLeft_22 : decode prog_1_method_14_code 22 = .ok (.iload_n 2, 1) := by decide +kernel
theorem d_B_marksLeft_23 : decode prog_1_method_14_code 23 = .ok (.baload, 1) := by decide +kernel
theorem d_B_marksLeft_24 : decode prog_1_method_14_code 24 = .ok (.ifCond .eq 12, 3) := by decide +kernel
theorem d_B_marksLeft_27 : decode prog_1_method_14_code 27 = .ok (.iload_n 1, 1) := by decide +kernel
theorem d_B_marksLeft_28 : decode prog_1_method_14_code 28 = .ok (.aload_n 0, 1) := by decide +kernel
theorem d_B_marksLeft_29 : decode prog_1_method_14_code 29 = .ok (.getfield 36, 3) := by decide +kernel
theorem d_B_marksLeft_32 : decode prog_1_method_14_code 32 = .ok (.iload_n 2, 1) := by decide +kernel
theorem d_B_marksLeft_33 : decode prog_1_method_14_code 33 = .ok (.iaload, 1) := by decide +kernel
theorem d_B_marksLeft_34 : decode prog_1_method_14_code 34 = .ok (.ior, 1) := by decide +kernel
theorem d_B_marksLeft_35 : decode prog_1_method_14_code 35 = .ok (.istore_n 1, 1) := by decide +kernel
theorem d_B_marksLeft_36 : decode prog_1_method_14_code 36 = .ok (.iinc 2 1, 3) := by decide +kernel
theorem d_B_marksLeft_39 : decode prog_1_method_14_code 39 = .ok (.goto (-35), 3) := by decide +kernel
theorem d_B_marksLeft_42 : decode prog_1_method_14_code 42 = .ok (.iload_n 1, 1) := by decide +kernel
theorem d_B_marksLeft_43 : decode prog_1_method_14_code 43 = .ok (.ireturn, 1) := by decide +kernel
theorem d_B_holdsOf_0 : decode prog_1_method_16_code 0 = .ok (.aload_n 0, 1) := by decide +kernel
theorem d_B_holdsOf_1 : decode prog_1_method_16_code 1 = .ok (.getfield 43, 3) := by decide +kernel
theorem d_B_holdsOf_4 : decode prog_1_method_16_code 4 = .ok (.iload_n 1, 1) := by decide +kernel
theorem d_B_holdsOf_5 : decode prog_1_method_16_code 5 = .ok (.iconst (-1), 1) := by decide +kernel
theorem d_B_holdsOf_6 : decode prog_1_method_16_code 6 = .ok (.ixor, 1) := by decide +kernel
theorem d_B_holdsOf_7 : decode prog_1_method_16_code 7 = .ok (.iand, 1) := by decide +kernel
theorem d_B_holdsOf_8 : decode prog_1_method_16_code 8 = .ok (.ifCond .ne 7, 3) := by decide +kernel
theorem d_B_holdsOf_11 : decode prog_1_method_16_code 11 = .ok (.iconst 1, 1) := by decide +kernel
theorem d_B_holdsOf_12 : decode prog_1_method_16_code 12 = .ok (.goto 4, 3) := by decide +kernel
theorem d_B_holdsOf_15 : decode prog_1_method_16_code 15 = .ok (.iconst 0, 1) := by decide +kernel
theorem d_B_holdsOf_16 : decode prog_1_method_16_code 16 = .ok (.istore_n 2, 1) := by decide +kernel
theorem d_B_holdsOf_17 : decode prog_1_method_16_code 17 = .ok (.iload_n 2, 1) := by decide +kernel
theorem d_B_holdsOf_18 : decode prog_1_method_16_code 18 = .ok (.aload_n 0, 1) := by decide +kernel
theorem d_B_holdsOf_19 : decode prog_1_method_16_code 19 = .ok (.getfield 46, 3) := by decide +kernel
theorem d_B_holdsOf_22 : decode prog_1_method_16_code 22 = .ok (.if_icmp .ne 7, 3) := by decide +kernel
theorem d_B_holdsOf_25 : decode prog_1_method_16_code 25 = .ok (.iconst 1, 1) := by decide +kernel
theorem d_B_holdsOf_26 : decode prog_1_method_16_code 26 = .ok (.goto 4, 3) := by decide +kernel
theorem d_B_holdsOf_29 : decode prog_1_method_16_code 29 = .ok (.iconst 0, 1) := by decide +kernel
theorem d_B_holdsOf_30 : decode prog_1_method_16_code 30 = .ok (.ireturn, 1) := by decide +kernel
theorem d_B_leaveOutAllThatCanGo_0 : decode prog_1_method_18_code 0 = .ok (.iconst 1, 1) := by decide +kernel
theorem d_B_leaveOutAllThatCanGo_1 : decode prog_1_method_18_code 1 = .ok (.istore_n 1, 1) := by decide +kernel
theorem d_B_leaveOutAllThatCanGo_2 : decode prog_1_method_18_code 2 = .ok (.iconst 0, 1) := by decide +kernel
theorem d_B_leaveOutAllThatCanGo_3 : decode prog_1_method_18_code 3 = .ok (.istore_n 2, 1) := by decide +kernel
theorem d_B_leaveOutAllThatCanGo_4 : decode prog_1_method_18_code 4 = .ok (.iload_n 1, 1) := by decide +kernel
theorem d_B_leaveOutAllThatCanGo_5 : decode prog_1_method_18_code 5 = .ok (.ifCond .eq 20, 3) := by decide +kernel
theorem d_B_leaveOutAllThatCanGo_8 : decode prog_1_method_18_code 8 = .ok (.iload_n 2, 1) := by decide +kernel
theorem d_B_leaveOutAllThatCanGo_9 : decode prog_1_method_18_code 9 = .ok (.bipush 62, 2) := by decide +kernel
theorem d_B_leaveOutAllThatCanGo_11 : decode prog_1_method_18_code 11 = .ok (.if_icmp .gt 14, 3) := by decide +kernel
theorem d_B_leaveOutAllThatCanGo_14 : decode prog_1_method_18_code 14 = .ok (.aload_n 0, 1) := by decide +kernel
theorem d_B_leaveOutAllThatCanGo_15 : decode prog_1_method_18_code 15 = .ok (.invokevirtual 130, 3) := by decide +kernel
theorem d_B_leaveOutAllThatCanGo_18 : decode prog_1_method_18_code 18 = .ok (.istore_n 1, 1) := by decide +kernel
theorem d_B_leaveOutAllThatCanGo_19 : decode prog_1_method_18_code 19 = .ok (.iinc 2 1, 3) := by decide +kernel
theorem d_B_leaveOutAllThatCanGo_22 : decode prog_1_method_18_code 22 = .ok (.goto (-18), 3) := by decide +kernel
theorem d_B_leaveOutAllThatCanGo_25 : decode prog_1_method_18_code 25 = .ok (.aload_n 0, 1) := by decide +kernel
theorem d_B_leaveOutAllThatCanGo_26 : decode prog_1_method_18_code 26 = .ok (.iconst (-1), 1) := by decide +kernel
theorem d_B_leaveOutAllThatCanGo_27 : decode prog_1_method_18_code 27 = .ok (.putfield 54, 3) := by decide +kernel
theorem d_B_leaveOutAllThatCanGo_30 : decode prog_1_method_18_code 30 = .ok (.return_, 1) := by decide +kernel
theorem d_B_leaveOutFromLastToFirst_0 : decode prog_1_method_19_code 0 = .ok (.iconst 0, 1) := by decide +kernel
theorem d_B_leaveOutFromLastToFirst_1 : decode prog_1_method_19_code 1 = .ok (.istore_n 1, 1) := by decide +kernel
theorem d_B_leaveOutFromLastToFirst_2 : decode prog_1_method_19_code 2 = .ok (.aload_n 0, 1) := by decide +kernel
theorem d_B_leaveOutFromLastToFirst_3 : decode prog_1_method_19_code 3 = .ok (.getfield 19, 3) := by decide +kernel
theorem d_B_leaveOutFromLastToFirst_6 : decode prog_1_method_19_code 6 = .ok (.iconst 1, 1) := by decide +kernel
theorem d_B_leaveOutFromLastToFirst_7 : decode prog_1_method_19_code 7 = .ok (.isub, 1) := by decide +kernel
theorem d_B_leaveOutFromLastToFirst_8 : decode prog_1_method_19_code 8 = .ok (.istore_n 2, 1) := by decide +kernel
theorem d_B_leaveOutFromLastToFirst_9 : decode prog_1_method_19_code 9 = .ok (.iload_n 2, 1) := by decide +kernel
theorem d_B_leaveOutFromLastToFirst_10 : decode prog_1_method_19_code 10 = .ok (.ifCond .lt 32, 3) := by decide +kernel
theorem d_B_leaveOutFromLastToFirst_13 : decode prog_1_method_19_code 13 = .ok (.iload_n 2, 1) := by decide +kernel
theorem d_B_leaveOutFromLastToFirst_14 : decode prog_1_method_19_code 14 = .ok (.bipush 62, 2) := by decide +kernel
theorem d_B_leaveOutFromLastToFirst_16 : decode prog_1_method_19_code 16 = .ok (.if_icmp .ge 20, 3) := by decide +kernel
theorem d_B_leaveOutFromLastToFirst_19 : decode prog_1_method_19_code 19 = .ok (.aload_n 0, 1) := by decide +kernel
theorem d_B_leaveOutFromLastToFirst_20 : decode prog_1_method_19_code 20 = .ok (.iload_n 2, 1) := by decide +kernel
theorem d_B_leaveOutFromLastToFirst_21 : decode prog_1_method_19_code 21 = .ok (.invokevirtual 123, 3) := by decide +kernel
theorem d_B_leaveOutFromLastToFirst_24 : decode prog_1_method_19_code 24 = .ok (.ifCond .eq 12, 3) := by decide +kernel
theorem d_B_leaveOutFromLastToFirst_27 : decode prog_1_method_19_code 27 = .ok (.aload_n 0, 1) := by decide +kernel
theorem d_B_leaveOutFromLastToFirst_28 : decode prog_1_method_19_code 28 = .ok (.getfield 39, 3) := by decide +kernel
theorem d_B_leaveOutFromLastToFirst_31 : decode prog_1_method_19_code 31 = .ok (.iload_n 2, 1) := by decide +kernel
theorem d_B_leaveOutFromLastToFirst_32 : decode prog_1_method_19_code 32 = .ok (.iconst 0, 1) := by decide +kernel
theorem d_B_leaveOutFromLastToFirst_33 : decode prog_1_method_19_code 33 = .ok (.bastore, 1) := by decide +kernel
theorem d_B_leaveOutFromLastToFirst_34 : decode prog_1_method_19_code 34 = .ok (.iconst 1, 1) := by decide +kernel
theorem d_B_leaveOutFromLastToFirst_35 : decode prog_1_method_19_code 35 = .ok (.istore_n 1, 1) := by decide +kernel
theorem d_B_leaveOutFromLastToFirst_36 : decode prog_1_method_19_code 36 = .ok (.iinc 2 (-1), 3) := by decide +kernel
theorem d_B_leaveOutFromLastToFirst_39 : decode prog_1_method_19_code 39 = .ok (.goto (-30), 3) := by decide +kernel
theorem d_B_leaveOutFromLastToFirst_42 : decode prog_1_method_19_code 42 = .ok (.iload_n 1, 1) := by decide +kernel
theorem d_B_leaveOutFromLastToFirst_43 : decode prog_1_method_19_code 43 = .ok (.ireturn, 1) := by decide +kernel
theorem d_B_canGo_0 : decode prog_1_method_17_code 0 = .ok (.aload_n 0, 1) := by decide +kernel
theorem d_B_canGo_1 : decode prog_1_method_17_code 1 = .ok (.iload_n 1, 1) := by decide +kernel
theorem d_B_canGo_2 : decode prog_1_method_17_code 2 = .ok (.invokevirtual 90, 3) := by decide +kernel
theorem d_B_canGo_5 : decode prog_1_method_17_code 5 = .ok (.ifCond .eq 12, 3) := by decide +kernel
theorem d_B_canGo_8 : decode prog_1_method_17_code 8 = .ok (.aload_n 0, 1) := by decide +kernel
theorem d_B_canGo_9 : decode prog_1_method_17_code 9 = .ok (.getfield 39, 3) := by decide +kernel
theorem d_B_canGo_12 : decode prog_1_method_17_code 12 = .ok (.iload_n 1, 1) := by decide +kernel
theorem d_B_canGo_13 : decode prog_1_method_17_code 13 = .ok (.baload, 1) := by decide +kernel
theorem d_B_canGo_14 : decode prog_1_method_17_code 14 = .ok (.ifCond .ne 5, 3) := by decide +kernel
theorem d_B_canGo_17 : decode prog_1_method_17_code 17 = .ok (.iconst 0, 1) := by decide +kernel
theorem d_B_canGo_18 : decode prog_1_method_17_code 18 = .ok (.ireturn, 1) := by decide +kernel
theorem d_B_canGo_19 : decode prog_1_method_17_code 19 = .ok (.iconst 0, 1) := by decide +kernel
theorem d_B_canGo_20 : decode prog_1_method_17_code 20 = .ok (.istore_n 2, 1) := by decide +kernel
theorem d_B_canGo_21 : decode prog_1_method_17_code 21 = .ok (.iconst 0, 1) := by decide +kernel
theorem d_B_canGo_22 : decode prog_1_method_17_code 22 = .ok (.istore_n 3, 1) := by decide +kernel
theorem d_B_canGo_23 : decode prog_1_method_17_code 23 = .ok (.iload_n 3, 1) := by decide +kernel
theorem d_B_canGo_24 : decode prog_1_method_17_code 24 = .ok (.aload_n 0, 1) := by decide +kernel
theorem d_B_canGo_25 : decode prog_1_method_17_code 25 = .ok (.getfield 19, 3) := by decide +kernel
theorem d_B_canGo_28 : decode prog_1_method_17_code 28 = .ok (.if_icmp .ge 50, 3) := by decide +kernel
theorem d_B_canGo_31 : decode prog_1_method_17_code 31 = .ok (.iload_n 3, 1) := by decide +kernel
theorem d_B_canGo_32 : decode prog_1_method_17_code 32 = .ok (.bipush 62, 2) := by decide +kernel
theorem d_B_canGo_34 : decode prog_1_method_17_code 34 = .ok (.if_icmp .ge 44, 3) := by decide +kernel
theorem d_B_canGo_37 : decode prog_1_method_17_code 37 = .ok (.iload_n 3, 1) := by decide +kernel
theorem d_B_canGo_38 : decode prog_1_method_17_code 38 = .ok (.iload_n 1, 1) := by decide +kernel
theorem d_B_canGo_39 : decode prog_1_method_17_code 39 = .ok (.if_icmp .eq 33, 3) := by decide +kernel
theorem d_B_canGo_42 : decode prog_1_method_17_code 42 = .ok (.aload_n 0, 1) := by decide +kernel
theorem d_B_canGo_43 : decode prog_1_method_17_code 43 = .ok (.getfield 39, 3) := by decide +kernel
theorem d_B_canGo_46 : decode prog_1_method_17_code 46 = .ok (.iload_n 3, 1) := by decide +kernel
theorem d_B_canGo_47 : decode prog_1_method_17_code 47 = .ok (.baload, 1) := by decide +kernel
theorem d_B_canGo_48 : decode prog_1_method_17_code 48 = .ok (.ifCond .eq 24, 3) := by decide +kernel
theorem d_B_canGo_51 : decode prog_1_method_17_code 51 = .ok (.aload_n 0, 1) := by decide +kernel
theorem d_B_canGo_52 : decode prog_1_method_17_code 52 = .ok (.getfield 33, 3) := by decide +kernel
theorem d_B_canGo_55 : decode prog_1_method_17_code 55 = .ok (.iload_n 3, 1) := by decide +kernel
theorem d_B_canGo_56 : decode prog_1_method_17_code 56 = .ok (.iaload, 1) := by decide +kernel
theorem d_B_canGo_57 : decode prog_1_method_17_code 57 = .ok (.iload_n 1, 1) := by decide +kernel
theorem d_B_canGo_58 : decode prog_1_method_17_code 58 = .ok (.if_icmp .ne 5, 3) := by decide +kernel
theorem d_B_canGo_61 : decode prog_1_method_17_code 61 = .ok (.iconst 0, 1) := by decide +kernel
theorem d_B_canGo_62 : decode prog_1_method_17_code 62 = .ok (.ireturn, 1) := by decide +kernel
theorem d_B_canGo_63 : decode prog_1_method_17_code 63 = .ok (.iload_n 2, 1) := by decide +kernel
theorem d_B_canGo_64 : decode prog_1_method_17_code 64 = .ok (.aload_n 0, 1) := by decide +kernel
theorem d_B_canGo_65 : decode prog_1_method_17_code 65 = .ok (.getfield 36, 3) := by decide +kernel
theorem d_B_canGo_68 : decode prog_1_method_17_code 68 = .ok (.iload_n 3, 1) := by decide +kernel
theorem d_B_canGo_69 : decode prog_1_method_17_code 69 = .ok (.iaload, 1) := by decide +kernel
theorem d_B_canGo_70 : decode prog_1_method_17_code 70 = .ok (.ior, 1) := by decide +kernel
theorem d_B_canGo_71 : decode prog_1_method_17_code 71 = .ok (.istore_n 2, 1) := by decide +kernel
theorem d_B_canGo_72 : decode prog_1_method_17_code 72 = .ok (.iinc 3 1, 3) := by decide +kernel
theorem d_B_canGo_75 : decode prog_1_method_17_code 75 = .ok (.goto (-52), 3) := by decide +kernel
theorem d_B_canGo_78 : decode prog_1_method_17_code 78 = .ok (.aload_n 0, 1) := by decide +kernel
theorem d_B_canGo_79 : decode prog_1_method_17_code 79 = .ok (.iload_n 2, 1) := by decide +kernel
theorem d_B_canGo_80 : decode prog_1_method_17_code 80 = .ok (.invokevirtual 114, 3) := by decide +kernel
theorem d_B_canGo_83 : decode prog_1_method_17_code 83 = .ok (.ireturn, 1) := by decide +kernel
theorem d_B_countLeft_0 : decode prog_1_method_13_code 0 = .ok (.iconst 0, 1) := by decide +kernel
theorem d_B_countLeft_1 : decode prog_1_method_13_code 1 = .ok (.istore_n 1, 1) := by decide +kernel
theorem d_B_countLeft_2 : decode prog_1_method_13_code 2 = .ok (.iconst 0, 1) := by decide +kernel
theorem d_B_countLeft_3 : decode prog_1_method_13_code 3 = .ok (.istore_n 2, 1) := by decide +kernel
theorem d_B_countLeft_4 : decode prog_1_method_13_code 4 = .ok (.iload_n 2, 1) := by decide +kernel
theorem d_B_countLeft_5 : decode prog_1_method_13_code 5 = .ok (.aload_n 0, 1) := by decide +kernel
theorem d_B_countLeft_6 : decode prog_1_method_13_code 6 = .ok (.getfield 19, 3) := by decide +kernel
theorem d_B_countLeft_9 : decode prog_1_method_13_code 9 = .ok (.if_icmp .ge 27, 3) := by decide +kernel
theorem d_B_countLeft_12 : decode prog_1_method_13_code 12 = .ok (.iload_n 2, 1) := by decide +kernel
theorem d_B_countLeft_13 : decode prog_1_method_13_code 13 = .ok (.bipush 62, 2) := by decide +kernel
theorem d_B_countLeft_15 : decode prog_1_method_13_code 15 = .ok (.if_icmp .ge 21, 3) := by decide +kernel
theorem d_B_countLeft_18 : decode prog_1_method_13_code 18 = .ok (.aload_n 0, 1) := by decide +kernel
theorem d_B_countLeft_19 : decode prog_1_method_13_code 19 = .ok (.getfield 39, 3) := by decide +kernel
theorem d_B_countLeft_22 : decode prog_1_method_13_code 22 = .ok (.iload_n 2, 1) := by decide +kernel
theorem d_B_countLeft_23 : decode prog_1_method_13_code 23 = .ok (.baload, 1) := by decide +kernel
theorem d_B_countLeft_24 : decode prog_1_method_13_code 24 = .ok (.ifCond .eq 6, 3) := by decide +kernel
theorem d_B_countLeft_27 : decode prog_1_method_13_code 27 = .ok (.iinc 1 1, 3) := by decide +kernel
theorem d_B_countLeft_30 : decode prog_1_method_13_code 30 = .ok (.iinc 2 1, 3) := by decide +kernel
theorem d_B_countLeft_33 : decode prog_1_method_13_code 33 = .ok (.goto (-29), 3) := by decide +kernel
theorem d_B_countLeft_36 : decode prog_1_method_13_code 36 = .ok (.iload_n 1, 1) := by decide +kernel
theorem d_B_countLeft_37 : decode prog_1_method_13_code 37 = .ok (.ireturn, 1) := by decide +kernel
theorem d_B_left_0 : decode prog_1_method_7_code 0 = .ok (.iload_n 1, 1) := by decide +kernel
theorem d_B_left_1 : decode prog_1_method_7_code 1 = .ok (.ifCond .ge 5, 3) := by decide +kernel
theorem d_B_left_4 : decode prog_1_method_7_code 4 = .ok (.iconst (-1), 1) := by decide +kernel
theorem d_B_left_5 : decode prog_1_method_7_code 5 = .ok (.ireturn, 1) := by decide +kernel
theorem d_B_left_6 : decode prog_1_method_7_code 6 = .ok (.iconst 0, 1) := by decide +kernel
theorem d_B_left_7 : decode prog_1_method_7_code 7 = .ok (.istore_n 2, 1) := by decide +kernel
theorem d_B_left_8 : decode prog_1_method_7_code 8 = .ok (.iconst 0, 1) := by decide +kernel
theorem d_B_left_9 : decode prog_1_method_7_code 9 = .ok (.istore_n 3, 1) := by decide +kernel
theorem d_B_left_10 : decode prog_1_method_7_code 10 = .ok (.iload_n 3, 1) := by decide +kernel
theorem d_B_left_11 : decode prog_1_method_7_code 11 = .ok (.aload_n 0, 1) := by decide +kernel
theorem d_B_left_12 : decode prog_1_method_7_code 12 = .ok (.getfield 19, 3) := by decide +kernel
theorem d_B_left_15 : decode prog_1_method_7_code 15 = .ok (.if_icmp .ge 34, 3) := by decide +kernel
theorem d_B_left_18 : decode prog_1_method_7_code 18 = .ok (.iload_n 3, 1) := by decide +kernel
theorem d_B_left_19 : decode prog_1_method_7_code 19 = .ok (.bipush 62, 2) := by decide +kernel
theorem d_B_left_21 : decode prog_1_method_7_code 21 = .ok (.if_icmp .ge 28, 3) := by decide +kernel
theorem d_B_left_24 : decode prog_1_method_7_code 24 = .ok (.aload_n 0, 1) := by decide +kernel
theorem d_B_left_25 : decode prog_1_method_7_code 25 = .ok (.getfield 39, 3) := by decide +kernel
theorem d_B_left_28 : decode prog_1_method_7_code 28 = .ok (.iload_n 3, 1) := by decide +kernel
theorem d_B_left_29 : decode prog_1_method_7_code 29 = .ok (.baload, 1) := by decide +kernel
theorem d_B_left_30 : decode prog_1_method_7_code 30 = .ok (.ifCond .eq 13, 3) := by decide +kernel
theorem d_B_left_33 : decode prog_1_method_7_code 33 = .ok (.iload_n 2, 1) := by decide +kernel
theorem d_B_left_34 : decode prog_1_method_7_code 34 = .ok (.iload_n 1, 1) := by decide +kernel
theorem d_B_left_35 : decode prog_1_method_7_code 35 = .ok (.if_icmp .ne 5, 3) := by decide +kernel
theorem d_B_left_38 : decode prog_1_method_7_code 38 = .ok (.iload_n 3, 1) := by decide +kernel
theorem d_B_left_39 : decode prog_1_method_7_code 39 = .ok (.ireturn, 1) := by decide +kernel
theorem d_B_left_40 : decode prog_1_method_7_code 40 = .ok (.iinc 2 1, 3) := by decide +kernel
theorem d_B_left_43 : decode prog_1_method_7_code 43 = .ok (.iinc 3 1, 3) := by decide +kernel
theorem d_B_left_46 : decode prog_1_method_7_code 46 = .ok (.goto (-36), 3) := by decide +kernel
theorem d_B_left_49 : decode prog_1_method_7_code 49 = .ok (.iconst (-1), 1) := by decide +kernel
theorem d_B_left_50 : decode prog_1_method_7_code 50 = .ok (.ireturn, 1) := by decide +kernel
theorem d_B_minimal_0 : decode prog_1_method_8_code 0 = .ok (.iconst 0, 1) := by decide +kernel
theorem d_B_minimal_1 : decode prog_1_method_8_code 1 = .ok (.istore_n 1, 1) := by decide +kernel
theorem d_B_minimal_2 : decode prog_1_method_8_code 2 = .ok (.iload_n 1, 1) := by decide +kernel
theorem d_B_minimal_3 : decode prog_1_method_8_code 3 = .ok (.aload_n 0, 1) := by decide +kernel
theorem d_B_minimal_4 : decode prog_1_method_8_code 4 = .ok (.getfield 19, 3) := by decide +kernel
theorem d_B_minimal_7 : decode prog_1_method_8_code 7 = .ok (.if_icmp .ge 19, 3) := by decide +kernel
theorem d_B_minimal_10 : decode prog_1_method_8_code 10 = .ok (.aload_n 0, 1) := by decide +kernel
theorem d_B_minimal_11 : decode prog_1_method_8_code 11 = .ok (.iload_n 1, 1) := by decide +kernel
theorem d_B_minimal_12 : decode prog_1_method_8_code 12 = .ok (.invokevirtual 123, 3) := by decide +kernel
theorem d_B_minimal_15 : decode prog_1_method_8_code 15 = .ok (.ifCond .eq 5, 3) := by decide +kernel
theorem d_B_minimal_18 : decode prog_1_method_8_code 18 = .ok (.iconst 0, 1) := by decide +kernel
theorem d_B_minimal_19 : decode prog_1_method_8_code 19 = .ok (.ireturn, 1) := by decide +kernel
theorem d_B_minimal_20 : decode prog_1_method_8_code 20 = .ok (.iinc 1 1, 3) := by decide +kernel
theorem d_B_minimal_23 : decode prog_1_method_8_code 23 = .ok (.goto (-21), 3) := by decide +kernel
theorem d_B_minimal_26 : decode prog_1_method_8_code 26 = .ok (.iconst 1, 1) := by decide +kernel
theorem d_B_minimal_27 : decode prog_1_method_8_code 27 = .ok (.ireturn, 1) := by decide +kernel
theorem d_B_same_0 : decode prog_1_method_9_code 0 = .ok (.iload_n 3, 1) := by decide +kernel
theorem d_B_same_1 : decode prog_1_method_9_code 1 = .ok (.iload 4, 2) := by decide +kernel
theorem d_B_same_3 : decode prog_1_method_9_code 3 = .ok (.invokestatic 61, 3) := by decide +kernel
theorem d_B_same_6 : decode prog_1_method_9_code 6 = .ok (.ifCond .ne 5, 3) := by decide +kernel
theorem d_B_same_9 : decode prog_1_method_9_code 9 = .ok (.iconst 0, 1) := by decide +kernel
theorem d_B_same_10 : decode prog_1_method_9_code 10 = .ok (.ireturn, 1) := by decide +kernel
theorem d_B_same_11 : decode prog_1_method_9_code 11 = .ok (.aload_n 0, 1) := by decide +kernel
theorem d_B_same_12 : decode prog_1_method_9_code 12 = .ok (.getfield 12, 3) := by decide +kernel
theorem d_B_same_15 : decode prog_1_method_9_code 15 = .ok (.aload_n 0, 1) := by decide +kernel
theorem d_B_same_16 : decode prog_1_method_9_code 16 = .ok (.getfield 57, 3) := by decide +kernel
theorem d_B_same_19 : decode prog_1_method_9_code 19 = .ok (.iload_n 3, 1) := by decide +kernel
theorem d_B_same_20 : decode prog_1_method_9_code 20 = .ok (.iload 4, 2) := by decide +kernel
theorem d_B_same_22 : decode prog_1_method_9_code 22 = .ok (.invokevirtual 65, 3) := by decide +kernel
theorem d_B_same_25 : decode prog_1_method_9_code 25 = .ok (.aload_n 0, 1) := by decide +kernel
theorem d_B_same_26 : decode prog_1_method_9_code 26 = .ok (.getfield 16, 3) := by decide +kernel
theorem d_B_same_29 : decode prog_1_method_9_code 29 = .ok (.lload_n 1, 1) := by decide +kernel
theorem d_B_same_30 : decode prog_1_method_9_code 30 = .ok (.iload_n 3, 1) := by decide +kernel
theorem d_B_same_31 : decode prog_1_method_9_code 31 = .ok (.iload 4, 2) := by decide +kernel
theorem d_B_same_33 : decode prog_1_method_9_code 33 = .ok (.invokevirtual 65, 3) := by decide +kernel
theorem d_B_same_36 : decode prog_1_method_9_code 36 = .ok (.iconst 0, 1) := by decide +kernel
theorem d_B_same_37 : decode prog_1_method_9_code 37 = .ok (.istore 5, 2) := by decide +kernel
theorem d_B_same_39 : decode prog_1_method_9_code 39 = .ok (.iload 5, 2) := by decide +kernel
theorem d_B_same_41 : decode prog_1_method_9_code 41 = .ok (.iload 4, 2) := by decide +kernel
theorem d_B_same_43 : decode prog_1_method_9_code 43 = .ok (.iconst 2, 1) := by decide +kernel
theorem d_B_same_44 : decode prog_1_method_9_code 44 = .ok (.iadd, 1) := by decide +kernel
theorem d_B_same_45 : decode prog_1_method_9_code 45 = .ok (.if_icmp .ge 39, 3) := by decide +kernel
theorem d_B_same_48 : decode prog_1_method_9_code 48 = .ok (.aload_n 0, 1) := by decide +kernel
theorem d_B_same_49 : decode prog_1_method_9_code 49 = .ok (.getfield 12, 3) := by decide +kernel
theorem d_B_same_52 : decode prog_1_method_9_code 52 = .ok (.invokevirtual 69, 3) := by decide +kernel
theorem d_B_same_55 : decode prog_1_method_9_code 55 = .ok (.aload_n 0, 1) := by decide +kernel
theorem d_B_same_56 : decode prog_1_method_9_code 56 = .ok (.getfield 16, 3) := by decide +kernel
theorem d_B_same_59 : decode prog_1_method_9_code 59 = .ok (.invokevirtual 69, 3) := by decide +kernel
theorem d_B_same_62 : decode prog_1_method_9_code 62 = .ok (.aload_n 0, 1) := by decide +kernel
theorem d_B_same_63 : decode prog_1_method_9_code 63 = .ok (.getfield 12, 3) := by decide +kernel
theorem d_B_same_66 : decode prog_1_method_9_code 66 = .ok (.aload_n 0, 1) := by decide +kernel
theorem d_B_same_67 : decode prog_1_method_9_code 67 = .ok (.getfield 16, 3) := by decide +kernel
theorem d_B_same_70 : decode prog_1_method_9_code 70 = .ok (.invokevirtual 126, 3) := by decide +kernel
theorem d_B_same_73 : decode prog_1_method_9_code 73 = .ok (.ifCond .ne 5, 3) := by decide +kernel
theorem d_B_same_76 : decode prog_1_method_9_code 76 = .ok (.iconst 0, 1) := by decide +kernel
theorem d_B_same_77 : decode prog_1_method_9_code 77 = .ok (.ireturn, 1) := by decide +kernel
theorem d_B_same_78 : decode prog_1_method_9_code 78 = .ok (.iinc 5 1, 3) := by decide +kernel
theorem d_B_same_81 : decode prog_1_method_9_code 81 = .ok (.goto (-42), 3) := by decide +kernel
theorem d_B_same_84 : decode prog_1_method_9_code 84 = .ok (.iconst 1, 1) := by decide +kernel
theorem d_B_same_85 : decode prog_1_method_9_code 85 = .ok (.ireturn, 1) := by decide +kernel
end
section
theorem d_M_init_0 : decode prog_4_method_1_code 0 = .ok (.aload_n 0, 1) := by decide +kernel
theorem d_M_init_1 : decode prog_4_method_1_code 1 = .ok (.invokespecial 1, 3) := by decide +kernel
theorem d_M_init_4 : decode prog_4_method_1_code 4 = .ok (.aload_n 0, 1) := by decide +kernel
theorem d_M_init_5 : decode prog_4_method_1_code 5 = .ok (.iconst 1, 1) := by decide +kernel
theorem d_M_init_6 : decode prog_4_method_1_code 6 = .ok (.putfield 7, 3) := by decide +kernel
theorem d_M_init_9 : decode prog_4_method_1_code 9 = .ok (.aload_n 0, 1) := by decide +kernel
theorem d_M_init_10 : decode prog_4_method_1_code 10 = .ok (.bipush 124, 2) := by decide +kernel
theorem d_M_init_12 : decode prog_4_method_1_code 12 = .ok (.newarray .int, 2) := by decide +kernel
theorem d_M_init_14 : decode prog_4_method_1_code 14 = .ok (.putfield 13, 3) := by decide +kernel
theorem d_M_init_17 : decode prog_4_method_1_code 17 = .ok (.aload_n 0, 1) := by decide +kernel
theorem d_M_init_18 : decode prog_4_method_1_code 18 = .ok (.bipush 124, 2) := by decide +kernel
theorem d_M_init_20 : decode prog_4_method_1_code 20 = .ok (.newarray .int, 2) := by decide +kernel
theorem d_M_init_22 : decode prog_4_method_1_code 22 = .ok (.putfield 17, 3) := by decide +kernel
theorem d_M_init_25 : decode prog_4_method_1_code 25 = .ok (.aload_n 0, 1) := by decide +kernel
theorem d_M_init_26 : decode prog_4_method_1_code 26 = .ok (.bipush 124, 2) := by decide +kernel
theorem d_M_init_28 : decode prog_4_method_1_code 28 = .ok (.newarray .int, 2) := by decide +kernel
theorem d_M_init_30 : decode prog_4_method_1_code 30 = .ok (.putfield 20, 3) := by decide +kernel
theorem d_M_init_33 : decode prog_4_method_1_code 33 = .ok (.aload_n 0, 1) := by decide +kernel
theorem d_M_init_34 : decode prog_4_method_1_code 34 = .ok (.bipush 124, 2) := by decide +kernel
theorem d_M_init_36 : decode prog_4_method_1_code 36 = .ok (.newarray .int, 2) := by decide +kernel
theorem d_M_init_38 : decode prog_4_method_1_code 38 = .ok (.putfield 23, 3) := by decide +kernel
theorem d_M_init_41 : decode prog_4_method_1_code 41 = .ok (.aload_n 0, 1) := by decide +kernel
theorem d_M_init_42 : decode prog_4_method_1_code 42 = .ok (.bipush 124, 2) := by decide +kernel
theorem d_M_init_44 : decode prog_4_method_1_code 44 = .ok (.newarray .int, 2) := by decide +kernel
theorem d_M_init_46 : decode prog_4_method_1_code 46 = .ok (.putfield 26, 3) := by decide +kernel
theorem d_M_init_49 : decode prog_4_method_1_code 49 = .ok (.aload_n 0, 1) := by decide +kernel
theorem d_M_init_50 : decode prog_4_method_1_code 50 = .ok (.bipush 62, 2) := by decide +kernel
theorem d_M_init_52 : decode prog_4_method_1_code 52 = .ok (.newarray .boolean, 2) := by decide +kernel
theorem d_M_init_54 : decode prog_4_method_1_code 54 = .ok (.putfield 29, 3) := by decide +kernel
theorem d_M_init_57 : decode prog_4_method_1_code 57 = .ok (.aload_n 0, 1) := by decide +kernel
theorem d_M_init_58 : decode prog_4_method_1_code 58 = .ok (.lload_n 1, 1) := by decide +kernel
theorem d_M_init_59 : decode prog_4_method_1_code 59 = .ok (.putfield 33, 3) := by decide +kernel
theorem d_M_init_62 : decode prog_4_method_1_code 62 = .ok (.return_, 1) := by decide +kernel
theorem d_M_draw_0 : decode prog_4_method_8_code 0 = .ok (.aload_n 0, 1) := by decide +kernel
theorem d_M_draw_1 : decode prog_4_method_8_code 1 = .ok (.iconst 0, 1) := by decide +kernel
theorem d_M_draw_2 : decode prog_4_method_8_code 2 = .ok (.putfield 37, 3) := by decide +kernel
theorem d_M_draw_5 : decode prog_4_method_8_code 5 = .ok (.iload_n 1, 1) := by decide +kernel
theorem d_M_draw_6 : decode prog_4_method_8_code 6 = .ok (.iload_n 2, 1) := by decide +kernel
theorem d_M_draw_7 : decode prog_4_method_8_code 7 = .ok (.invokestatic 63, 3) := by decide +kernel
theorem d_M_draw_10 : decode prog_4_method_8_code 10 = .ok (.ifCond .ne 6, 3) := by decide +kernel
theorem d_M_draw_13 : decode prog_4_method_8_code 13 = .ok (.bipush (-2), 2) := by decide +kernel
theorem d_M_draw_15 : decode prog_4_method_8_code 15 = .ok (.ireturn, 1) := by decide +kernel
theorem d_M_draw_16 : decode prog_4_method_8_code 16 = .ok (.aload_n 0, 1) := by decide +kernel
theorem d_M_draw_17 : decode prog_4_method_8_code 17 = .ok (.aload_n 0, 1) := by decide +kernel
theorem d_M_draw_18 : decode prog_4_method_8_code 18 = .ok (.getfield 33, 3) := by decide +kernel
theorem d_M_draw_21 : decode prog_4_method_8_code 21 = .ok (.iload_n 1, 1) := by decide +kernel
theorem d_M_draw_22 : decode prog_4_method_8_code 22 = .ok (.iload_n 2, 1) := by decide +kernel
theorem d_M_draw_23 : decode prog_4_method_8_code 23 = .ok (.iconst 0, 1) := by decide +kernel
theorem d_M_draw_24 : decode prog_4_method_8_code 24 = .ok (.invokevirtual 67, 3) := by decide +kernel
theorem d_M_draw_27 : decode prog_4_method_8_code 27 = .ok (.aload_n 0, 1) := by decide +kernel
theorem d_M_draw_28 : decode prog_4_method_8_code 28 = .ok (.iload_n 2, 1) := by decide +kernel
theorem d_M_draw_29 : decode prog_4_method_8_code 29 = .ok (.iconst 2, 1) := by decide +kernel
theorem d_M_draw_30 : decode prog_4_method_8_code 30 = .ok (.iadd, 1) := by decide +kernel
theorem d_M_draw_31 : decode prog_4_method_8_code 31 = .ok (.putfield 71, 3) := by decide +kernel
theorem d_M_draw_34 : decode prog_4_method_8_code 34 = .ok (.iconst 0, 1) := by decide +kernel
theorem d_M_draw_35 : decode prog_4_method_8_code 35 = .ok (.istore_n 3, 1) := by decide +kernel
theorem d_M_draw_36 : decode prog_4_method_8_code 36 = .ok (.iload_n 3, 1) := by decide +kernel
theorem d_M_draw_37 : decode prog_4_method_8_code 37 = .ok (.aload_n 0, 1) := by decide +kernel
theorem d_M_draw_38 : decode prog_4_method_8_code 38 = .ok (.getfield 71, 3) := by decide +kernel
theorem d_M_draw_41 : decode prog_4_method_8_code 41 = .ok (.if_icmp .ge 16, 3) := by decide +kernel
theorem d_M_draw_44 : decode prog_4_method_8_code 44 = .ok (.aload_n 0, 1) := by decide +kernel
theorem d_M_draw_45 : decode prog_4_method_8_code 45 = .ok (.getfield 29, 3) := by decide +kernel
theorem d_M_draw_48 : decode prog_4_method_8_code 48 = .ok (.iload_n 3, 1) := by decide +kernel
theorem d_M_draw_49 : decode prog_4_method_8_code 49 = .ok (.iconst 1, 1) := by decide +kernel
theorem d_M_draw_50 : decode prog_4_method_8_code 50 = .ok (.bastore, 1) := by decide +kernel
theorem d_M_draw_51 : decode prog_4_method_8_code 51 = .ok (.iinc 3 1, 3) := by decide +kernel
theorem d_M_draw_54 : decode prog_4_method_8_code 54 = .ok (.goto (-18), 3) := by decide +kernel
theorem d_M_draw_57 : decode prog_4_method_8_code 57 = .ok (.aload_n 0, 1) := by decide +kernel
theorem d_M_draw_58 : decode prog_4_method_8_code 58 = .ok (.getfield 71, 3) := by decide +kernel
theorem d_M_draw_61 : decode prog_4_method_8_code 61 = .ok (.ireturn, 1) := by decide +kernel
theorem d_M_isSuch_0 : decode prog_4_method_7_code 0 = .ok (.iload_n 0, 1) := by decide +kernel
theorem d_M_isSuch_1 : decode prog_4_method_7_code 1 = .ok (.ifCond .lt 23, 3) := by decide +kernel
theorem d_M_isSuch_4 : decode prog_4_method_7_code 4 = .ok (.iload_n 0, 1) := by decide +kernel
theorem d_M_isSuch_5 : decode prog_4_method_7_code 5 = .ok (.bipush 8, 2) := by decide +kernel
theorem d_M_isSuch_7 : decode prog_4_method_7_code 7 = .ok (.if_icmp .ge 17, 3) := by decide +kernel
theorem d_M_isSuch_10 : decode prog_4_method_7_code 10 = .ok (.iload_n 1, 1) := by decide +kernel
theorem d_M_isSuch_11 : decode prog_4_method_7_code 11 = .ok (.ifCond .lt 13, 3) := by decide +kernel
theorem d_M_isSuch_14 : decode prog_4_method_7_code 14 = .ok (.iload_n 1, 1) := by decide +kernel
theorem d_M_isSuch_15 : decode prog_4_method_7_code 15 = .ok (.bipush 60, 2) := by decide +kernel
theorem d_M_isSuch_17 : decode prog_4_method_7_code 17 = .ok (.if_icmp .gt 7, 3) := by decide +kernel
theorem d_M_isSuch_20 : decode prog_4_method_7_code 20 = .ok (.iconst 1, 1) := by decide +kernel
theorem d_M_isSuch_21 : decode prog_4_method_7_code 21 = .ok (.goto 4, 3) := by decide +kernel
theorem d_M_isSuch_24 : decode prog_4_method_7_code 24 = .ok (.iconst 0, 1) := by decide +kernel
theorem d_M_isSuch_25 : decode prog_4_method_7_code 25 = .ok (.ireturn, 1) := by decide +kernel
theorem d_M_fill_0 : decode prog_4_method_6_code 0 = .ok (.aload_n 0, 1) := by decide +kernel
theorem d_M_fill_1 : decode prog_4_method_6_code 1 = .ok (.lload_n 1, 1) := by decide +kernel
theorem d_M_fill_2 : decode prog_4_method_6_code 2 = .ok (.iload_n 3, 1) := by decide +kernel
theorem d_M_fill_3 : decode prog_4_method_6_code 3 = .ok (.i2l, 1) := by decide +kernel
theorem d_M_fill_4 : decode prog_4_method_6_code 4 = .ok (.lxor, 1) := by decide +kernel
theorem d_M_fill_5 : decode prog_4_method_6_code 5 = .ok (.ldc2_w 55, 3) := by decide +kernel
theorem d_M_fill_8 : decode prog_4_method_6_code 8 = .ok (.lmul, 1) := by decide +kernel
theorem d_M_fill_9 : decode prog_4_method_6_code 9 = .ok (.iload 4, 2) := by decide +kernel
theorem d_M_fill_11 : decode prog_4_method_6_code 11 = .ok (.i2l, 1) := by decide +kernel
theorem d_M_fill_12 : decode prog_4_method_6_code 12 = .ok (.ladd, 1) := by decide +kernel
theorem d_M_fill_13 : decode prog_4_method_6_code 13 = .ok (.putfield 41, 3) := by decide +kernel
theorem d_M_fill_16 : decode prog_4_method_6_code 16 = .ok (.aload_n 0, 1) := by decide +kernel
theorem d_M_fill_17 : decode prog_4_method_6_code 17 = .ok (.iload_n 3, 1) := by decide +kernel
theorem d_M_fill_18 : decode prog_4_method_6_code 18 = .ok (.iconst 1, 1) := by decide +kernel
theorem d_M_fill_19 : decode prog_4_method_6_code 19 = .ok (.if_icmp .ne 12, 3) := by decide +kernel
theorem d_M_fill_22 : decode prog_4_method_6_code 22 = .ok (.aload_n 0, 1) := by decide +kernel
theorem d_M_fill_23 : decode prog_4_method_6_code 23 = .ok (.bipush 16, 2) := by decide +kernel
theorem d_M_fill_25 : decode prog_4_method_6_code 25 = .ok (.invokevirtual 48, 3) := by decide +kernel
theorem d_M_fill_28 : decode prog_4_method_6_code 28 = .ok (.goto 5, 3) := by decide +kernel
theorem d_M_fill_31 : decode prog_4_method_6_code 31 = .ok (.bipush 8, 2) := by decide +kernel
theorem d_M_fill_33 : decode prog_4_method_6_code 33 = .ok (.putfield 52, 3) := by decide +kernel
theorem d_M_fill_36 : decode prog_4_method_6_code 36 = .ok (.iconst 0, 1) := by decide +kernel
theorem d_M_fill_37 : decode prog_4_method_6_code 37 = .ok (.istore 6, 2) := by decide +kernel
theorem d_M_fill_39 : decode prog_4_method_6_code 39 = .ok (.iload 6, 2) := by decide +kernel
theorem d_M_fill_41 : decode prog_4_method_6_code 41 = .ok (.iload 4, 2) := by decide +kernel
theorem d_M_fill_43 : decode prog_4_method_6_code 43 = .ok (.iconst 2, 1) := by decide +kernel
theorem d_M_fill_44 : decode prog_4_method_6_code 44 = .ok (.iadd, 1) := by decide +kernel
theorem d_M_fill_45 : decode prog_4_method_6_code 45 = .ok (.if_icmp .ge 146, 3) := by decide +kernel
theorem d_M_fill_48 : decode prog_4_method_6_code 48 = .ok (.iload 5, 2) := by decide +kernel
theorem d_M_fill_50 : decode prog_4_method_6_code 50 = .ok (.iload 6, 2) := by decide +kernel
theorem d_M_fill_52 : decode prog_4_method_6_code 52 = .ok (.iadd, 1) := by decide +kernel
theorem d_M_fill_53 : decode prog_4_method_6_code 53 = .ok (.istore 7, 2) := by decide +kernel
theorem d_M_fill_55 : decode prog_4_method_6_code 55 = .ok (.aload_n 0, 1) := by decide +kernel
theorem d_M_fill_56 : decode prog_4_method_6_code 56 = .ok (.getfield 13, 3) := by decide +kernel
theorem d_M_fill_59 : decode prog_4_method_6_code 59 = .ok (.iload 7, 2) := by decide +kernel
theorem d_M_fill_61 : decode prog_4_method_6_code 61 = .ok (.iload 6, 2) := by decide +kernel
theorem d_M_fill_63 : decode prog_4_method_6_code 63 = .ok (.iconst 2, 1) := by decide +kernel
theorem d_M_fill_64 : decode prog_4_method_6_code 64 = .ok (.if_icmp .ge 8, 3) := by decide +kernel
theorem d_M_fill_67 : decode prog_4_method_6_code 67 = .ok (.iload 6, 2) := by decide +kernel
theorem d_M_fill_69 : decode prog_4_method_6_code 69 = .ok (.goto 20, 3) := by decide +kernel
theorem d_M_fill_72 : decode prog_4_method_6_code 72 = .ok (.aload_n 0, 1) := by decide +kernel
theorem d_M_fill_73 : decode prog_4_method_6_code 73 = .ok (.iconst 4, 1) := by decide +kernel
theorem d_M_fill_74 : decode prog_4_method_6_code 74 = .ok (.invokevirtual 48, 3) := by decide +kernel
theorem d_M_fill_77 : decode prog_4_method_6_code 77 = .ok (.iconst 3, 1) := by decide +kernel
theorem d_M_fill_78 : decode prog_4_method_6_code 78 = .ok (.if_icmp .ne 7, 3) := by decide +kernel
theorem d_M_fill_81 : decode prog_4_method_6_code 81 = .ok (.iconst 0, 1) := by decide +kernel
theorem d_M_fill_82 : decode prog_4_method_6_code 82 = .ok (.goto 7, 3) := by decide +kernel
theorem d_M_fill_85 : decode prog_4_method_6_code 85 = .ok (.iload_n 3, 1) := by decide +kernel
theorem d_M_fill_86 : decode prog_4_method_6_code 86 = .ok (.invokestatic 57, 3) := by decide +kernel
theorem d_M_fill_89 : decode prog_4_method_6_code 89 = .ok (.iastore, 1) := by decide +kernel
theorem d_M_fill_90 : decode prog_4_method_6_code 90 = .ok (.aload_n 0, 1) := by decide +kernel
theorem d_M_fill_91 : decode prog_4_method_6_code 91 = .ok (.getfield 17, 3) := by decide +kernel
theorem d_M_fill_94 : decode prog_4_method_6_code 94 = .ok (.iload 7, 2) := by decide +kernel
theorem d_M_fill_96 : decode prog_4_method_6_code 96 = .ok (.aload_n 0, 1) := by decide +kernel
theorem d_M_fill_97 : decode prog_4_method_6_code 97 = .ok (.sipush 1000, 3) := by decide +kernel
theorem d_M_fill_100 : decode prog_4_method_6_code 100 = .ok (.invokevirtual 48, 3) := by decide +kernel
theorem d_M_fill_103 : decode prog_4_method_6_code 103 = .ok (.iastore, 1) := by decide +kernel
theorem d_M_fill_104 : decode prog_4_method_6_code 104 = .ok (.aload_n 0, 1) := by decide +kernel
theorem d_M_fill_105 : decode prog_4_method_6_code 105 = .ok (.getfield 20, 3) := by decide +kernel
theorem d_M_fill_108 : decode prog_4_method_6_code 108 = .ok (.iload 7, 2) := by decide +kernel
theorem d_M_fill_110 : decode prog_4_method_6_code 110 = .ok (.aload_n 0, 1) := by decide +kernel
theorem d_M_fill_111 : decode prog_4_method_6_code 111 = .ok (.aload_n 0, 1) := by decide +kernel
theorem d_M_fill_112 : decode prog_4_method_6_code 112 = .ok (.getfield 13, 3) := by decide +kernel
theorem d_M_fill_115 : decode prog_4_method_6_code 115 = .ok (.iload 7, 2) := by decide +kernel
theorem d_M_fill_117 : decode prog_4_method_6_code 117 = .ok (.iaload, 1) := by decide +kernel
theorem d_M_fill_118 : decode prog_4_method_6_code 118 = .ok (.invokevirtual 60, 3) := by decide +kernel
theorem d_M_fill_121 : decode prog_4_method_6_code 121 = .ok (.iastore, 1) := by decide +kernel
theorem d_M_fill_122 : decode prog_4_method_6_code 122 = .ok (.aload_n 0, 1) := by decide +kernel
theorem d_M_fill_123 : decode prog_4_method_6_code 123 = .ok (.getfield 26, 3) := by decide +kernel
theorem d_M_fill_126 : decode prog_4_method_6_code 126 = .ok (.iload 7, 2) := by decide +kernel
theorem d_M_fill_128 : decode prog_4_method_6_code 128 = .ok (.iconst 1, 1) := by decide +kernel
theorem d_M_fill_129 : decode prog_4_method_6_code 129 = .ok (.aload_n 0, 1) := by decide +kernel
theorem d_M_fill_130 : decode prog_4_method_6_code 130 = .ok (.bipush 8, 2) := by decide +kernel
theorem d_M_fill_132 : decode prog_4_method_6_code 132 = .ok (.invokevirtual 48, 3) := by decide +kernel
theorem d_M_fill_135 : decode prog_4_method_6_code 135 = .ok (.ishl, 1) := by decide +kernel
theorem d_M_fill_136 : decode prog_4_method_6_code 136 = .ok (.iastore, 1) := by decide +kernel
theorem d_M_fill_137 : decode prog_4_method_6_code 137 = .ok (.iload 6, 2) := by decide +kernel
theorem d_M_fill_139 : decode prog_4_method_6_code 139 = .ok (.iconst 2, 1) := by decide +kernel
theorem d_M_fill_140 : decode prog_4_method_6_code 140 = .ok (.if_icmp .ge 10, 3) := by decide +kernel
theorem d_M_fill_143 : decode prog_4_method_6_code 143 = .ok (.iconst 1, 1) := by decide +kernel
theorem d_M_fill_144 : decode prog_4_method_6_code 144 = .ok (.iload 6, 2) := by decide +kernel
theorem d_M_fill_146 : decode prog_4_method_6_code 146 = .ok (.isub, 1) := by decide +kernel
theorem d_M_fill_147 : decode prog_4_method_6_code 147 = .ok (.goto 11, 3) := by decide +kernel
theorem d_M_fill_150 : decode prog_4_method_6_code 150 = .ok (.aload_n 0, 1) := by decide +kernel
theorem d_M_fill_151 : decode prog_4_method_6_code 151 = .ok (.iload 6, 2) := by decide +kernel
theorem d_M_fill_153 : decode prog_4_method_6_code 153 = .ok (.iconst 1, 1) := by decide +kernel
theorem d_M_fill_154 : decode prog_4_method_6_code 154 = .ok (.iadd, 1) := by decide +kernel
theorem d_M_fill_155 : decode prog_4_method_6_code 155 = .ok (.invokevirtual 48, 3) := by decide +kernel
theorem d_M_fill_158 : decode prog_4_method_6_code 158 = .ok (.istore 8, 2) := by decide +kernel
theorem d_M_fill_160 : decode prog_4_method_6_code 160 = .ok (.aload_n 0, 1) := by decide +kernel
theorem d_M_fill_161 : decode prog_4_method_6_code 161 = .ok (.getfield 23, 3) := by decide +kernel
theorem d_M_fill_164 : decode prog_4_method_6_code 164 = .ok (.iload 7, 2) := by decide +kernel
theorem d_M_fill_166 : decode prog_4_method_6_code 166 = .ok (.iload 8, 2) := by decide +kernel
theorem d_M_fill_168 : decode prog_4_method_6_code 168 = .ok (.iload 6, 2) := by decide +kernel
theorem d_M_fill_170 : decode prog_4_method_6_code 170 = .ok (.if_icmp .eq 8, 3) := by decide +kernel
theorem d_M_fill_173 : decode prog_4_method_6_code 173 = .ok (.iload 6, 2) := by decide +kernel
theorem d_M_fill_175 : decode prog_4_method_6_code 175 = .ok (.ifCond .ne 7, 3) := by decide +kernel
theorem d_M_fill_178 : decode prog_4_method_6_code 178 = .ok (.iconst (-1), 1) := by decide +kernel
theorem d_M_fill_179 : decode prog_4_method_6_code 179 = .ok (.goto 5, 3) := by decide +kernel
theorem d_M_fill_182 : decode prog_4_method_6_code 182 = .ok (.iload 8, 2) := by decide +kernel
theorem d_M_fill_184 : decode prog_4_method_6_code 184 = .ok (.iastore, 1) := by decide +kernel
theorem d_M_fill_185 : decode prog_4_method_6_code 185 = .ok (.iinc 6 1, 3) := by decide +kernel
theorem d_M_fill_188 : decode prog_4_method_6_code 188 = .ok (.goto (-149), 3) := by decide +kernel
theorem d_M_fill_191 : decode prog_4_method_6_code 191 = .ok (.return_, 1) := by decide +kernel
theorem d_M_chance_0 : decode prog_4_method_3_code 0 = .ok (.aload_n 0, 1) := by decide +kernel
theorem d_M_chance_1 : decode prog_4_method_3_code 1 = .ok (.aload_n 0, 1) := by decide +kernel
theorem d_M_chance_2 : decode prog_4_method_3_code 2 = .ok (.getfield 41, 3) := by decide +kernel
theorem d_M_chance_5 : decode prog_4_method_3_code 5 = .ok (.ldc2_w 44, 3) := by decide +kernel
theorem d_M_chance_8 : decode prog_4_method_3_code 8 = .ok (.lmul, 1) := by decide +kernel
theorem d_M_chance_9 : decode prog_4_method_3_code 9 = .ok (.ldc2_w 46, 3) := by decide +kernel
theorem d_M_chance_12 : decode prog_4_method_3_code 12 = .ok (.ladd, 1) := by decide +kernel
theorem d_M_chance_13 : decode prog_4_method_3_code 13 = .ok (.putfield 41, 3) := by decide +kernel
theorem d_M_chance_16 : decode prog_4_method_3_code 16 = .ok (.aload_n 0, 1) := by decide +kernel
theorem d_M_chance_17 : decode prog_4_method_3_code 17 = .ok (.getfield 41, 3) := by decide +kernel
theorem d_M_chance_20 : decode prog_4_method_3_code 20 = .ok (.bipush 33, 2) := by decide +kernel
theorem d_M_chance_22 : decode prog_4_method_3_code 22 = .ok (.lushr, 1) := by decide +kernel
theorem d_M_chance_23 : decode prog_4_method_3_code 23 = .ok (.iload_n 1, 1) := by decide +kernel
theorem d_M_chance_24 : decode prog_4_method_3_code 24 = .ok (.i2l, 1) := by decide +kernel
theorem d_M_chance_25 : decode prog_4_method_3_code 25 = .ok (.lrem, 1) := by decide +kernel
theorem d_M_chance_26 : decode prog_4_method_3_code 26 = .ok (.l2i, 1) := by decide +kernel
theorem d_M_chance_27 : decode prog_4_method_3_code 27 = .ok (.ireturn, 1) := by decide +kernel
theorem d_M_sortOf_0 : decode prog_4_method_4_code 0 = .ok (.iload_n 0, 1) := by decide +kernel
theorem d_M_sortOf_1 : decode prog_4_method_4_code 1 = .ok (.iconst 1, 1) := by decide +kernel
theorem d_M_sortOf_2 : decode prog_4_method_4_code 2 = .ok (.if_icmp .ne 7, 3) := by decide +kernel
theorem d_M_sortOf_5 : decode prog_4_method_4_code 5 = .ok (.iconst 2, 1) := by decide +kernel
theorem d_M_sortOf_6 : decode prog_4_method_4_code 6 = .ok (.goto 13, 3) := by decide +kernel
theorem d_M_sortOf_9 : decode prog_4_method_4_code 9 = .ok (.iload_n 0, 1) := by decide +kernel
theorem d_M_sortOf_10 : decode prog_4_method_4_code 10 = .ok (.iconst 2, 1) := by decide +kernel
theorem d_M_sortOf_11 : decode prog_4_method_4_code 11 = .ok (.if_icmp .ne 7, 3) := by decide +kernel
theorem d_M_sortOf_14 : decode prog_4_method_4_code 14 = .ok (.iconst 1, 1) := by decide +kernel
theorem d_M_sortOf_15 : decode prog_4_method_4_code 15 = .ok (.goto 4, 3) := by decide +kernel
theorem d_M_sortOf_18 : decode prog_4_method_4_code 18 = .ok (.iload_n 0, 1) := by decide +kernel
theorem d_M_sortOf_19 : decode prog_4_method_4_code 19 = .ok (.ireturn, 1) := by decide +kernel
theorem d_M_drawB_0 : decode prog_4_method_5_code 0 = .ok (.iload_n 1, 1) := by decide +kernel
theorem d_M_drawB_1 : decode prog_4_method_5_code 1 = .ok (.tableswitch 129 0 6 #[43, 50, 57, 85, 92, 116, 122], 43) := by decide +kernel
theorem d_M_drawB_44 : decode prog_4_method_5_code 44 = .ok (.aload_n 0, 1) := by decide +kernel
theorem d_M_drawB_45 : decode prog_4_method_5_code 45 = .ok (.bipush 100, 2) := by decide +kernel
theorem d_M_drawB_47 : decode prog_4_method_5_code 47 = .ok (.invokevirtual 48, 3) := by decide +kernel
theorem d_M_drawB_50 : decode prog_4_method_5_code 50 = .ok (.ireturn, 1) := by decide +kernel
theorem d_M_drawB_51 : decode prog_4_method_5_code 51 = .ok (.aload_n 0, 1) := by decide +kernel
theorem d_M_drawB_52 : decode prog_4_method_5_code 52 = .ok (.bipush 8, 2) := by decide +kernel
theorem d_M_drawB_54 : decode prog_4_method_5_code 54 = .ok (.invokevirtual 48, 3) := by decide +kernel
theorem d_M_drawB_57 : decode prog_4_method_5_code 57 = .ok (.ireturn, 1) := by decide +kernel
theorem d_M_drawB_58 : decode prog_4_method_5_code 58 = .ok (.aload_n 0, 1) := by decide +kernel
theorem d_M_drawB_59 : decode prog_4_method_5_code 59 = .ok (.sipush 256, 3) := by decide +kernel
theorem d_M_drawB_62 : decode prog_4_method_5_code 62 = .ok (.invokevirtual 48, 3) := by decide +kernel
theorem d_M_drawB_65 : decode prog_4_method_5_code 65 = .ok (.aload_n 0, 1) := by decide +kernel
theorem d_M_drawB_66 : decode prog_4_method_5_code 66 = .ok (.getfield 52, 3) := by decide +kernel
theorem d_M_drawB_69 : decode prog_4_method_5_code 69 = .ok (.bipush 8, 2) := by decide +kernel
theorem d_M_drawB_71 : decode prog_4_method_5_code 71 = .ok (.if_icmp .ge 12, 3) := by decide +kernel
theorem d_M_drawB_74 : decode prog_4_method_5_code 74 = .ok (.iconst 1, 1) := by decide +kernel
theorem d_M_drawB_75 : decode prog_4_method_5_code 75 = .ok (.aload_n 0, 1) := by decide +kernel
theorem d_M_drawB_76 : decode prog_4_method_5_code 76 = .ok (.getfield 52, 3) := by decide +kernel
theorem d_M_drawB_79 : decode prog_4_method_5_code 79 = .ok (.ishl, 1) := by decide +kernel
theorem d_M_drawB_80 : decode prog_4_method_5_code 80 = .ok (.goto 4, 3) := by decide +kernel
theorem d_M_drawB_83 : decode prog_4_method_5_code 83 = .ok (.iconst 0, 1) := by decide +kernel
theorem d_M_drawB_84 : decode prog_4_method_5_code 84 = .ok (.ior, 1) := by decide +kernel
theorem d_M_drawB_85 : decode prog_4_method_5_code 85 = .ok (.ireturn, 1) := by decide +kernel
theorem d_M_drawB_86 : decode prog_4_method_5_code 86 = .ok (.aload_n 0, 1) := by decide +kernel
theorem d_M_drawB_87 : decode prog_4_method_5_code 87 = .ok (.bipush 10, 2) := by decide +kernel
theorem d_M_drawB_89 : decode prog_4_method_5_code 89 = .ok (.invokevirtual 48, 3) := by decide +kernel
theorem d_M_drawB_92 : decode prog_4_method_5_code 92 = .ok (.ireturn, 1) := by decide +kernel
theorem d_M_drawB_93 : decode prog_4_method_5_code 93 = .ok (.aload_n 0, 1) := by decide +kernel
theorem d_M_drawB_94 : decode prog_4_method_5_code 94 = .ok (.bipush 12, 2) := by decide +kernel
theorem d_M_drawB_96 : decode prog_4_method_5_code 96 = .ok (.invokevirtual 48, 3) := by decide +kernel
theorem d_M_drawB_99 : decode prog_4_method_5_code 99 = .ok (.istore_n 2, 1) := by decide +kernel
theorem d_M_drawB_100 : decode prog_4_method_5_code 100 = .ok (.aload_n 0, 1) := by decide +kernel
theorem d_M_drawB_101 : decode prog_4_method_5_code 101 = .ok (.iconst 5, 1) := by decide +kernel
theorem d_M_drawB_102 : decode prog_4_method_5_code 102 = .ok (.invokevirtual 48, 3) := by decide +kernel
theorem d_M_drawB_105 : decode prog_4_method_5_code 105 = .ok (.ifCond .ne 10, 3) := by decide +kernel
theorem d_M_drawB_108 : decode prog_4_method_5_code 108 = .ok (.iload_n 2, 1) := by decide +kernel
theorem d_M_drawB_109 : decode prog_4_method_5_code 109 = .ok (.bipush 100, 2) := by decide +kernel
theorem d_M_drawB_111 : decode prog_4_method_5_code 111 = .ok (.iadd, 1) := by decide +kernel
theorem d_M_drawB_112 : decode prog_4_method_5_code 112 = .ok (.goto 4, 3) := by decide +kernel
theorem d_M_drawB_115 : decode prog_4_method_5_code 115 = .ok (.iload_n 2, 1) := by decide +kernel
theorem d_M_drawB_116 : decode prog_4_method_5_code 116 = .ok (.ireturn, 1) := by decide +kernel
theorem d_M_drawB_117 : decode prog_4_method_5_code 117 = .ok (.aload_n 0, 1) := by decide +kernel
theorem d_M_drawB_118 : decode prog_4_method_5_code 118 = .ok (.iconst 5, 1) := by decide +kernel
theorem d_M_drawB_119 : decode prog_4_method_5_code 119 = .ok (.invokevirtual 48, 3) := by decide +kernel
theorem d_M_drawB_122 : decode prog_4_method_5_code 122 = .ok (.ireturn, 1) := by decide +kernel
theorem d_M_drawB_123 : decode prog_4_method_5_code 123 = .ok (.aload_n 0, 1) := by decide +kernel
theorem d_M_drawB_124 : decode prog_4_method_5_code 124 = .ok (.bipush 7, 2) := by decide +kernel
theorem d_M_drawB_126 : decode prog_4_method_5_code 126 = .ok (.invokevirtual 48, 3) := by decide +kernel
theorem d_M_drawB_129 : decode prog_4_method_5_code 129 = .ok (.ireturn, 1) := by decide +kernel
theorem d_M_drawB_130 : decode prog_4_method_5_code 130 = .ok (.aload_n 0, 1) := by decide +kernel
theorem d_M_drawB_131 : decode prog_4_method_5_code 131 = .ok (.bipush 6, 2) := by decide +kernel
theorem d_M_drawB_133 : decode prog_4_method_5_code 133 = .ok (.invokevirtual 48, 3) := by decide +kernel
theorem d_M_drawB_136 : decode prog_4_method_5_code 136 = .ok (.ireturn, 1) := by decide +kernel
theorem d_M_same_0 : decode prog_4_method_9_code 0 = .ok (.aload_n 0, 1) := by decide +kernel
theorem d_M_same_1 : decode prog_4_method_9_code 1 = .ok (.iconst 0, 1) := by decide +kernel
theorem d_M_same_2 : decode prog_4_method_9_code 2 = .ok (.putfield 37, 3) := by decide +kernel
theorem d_M_same_5 : decode prog_4_method_9_code 5 = .ok (.iload_n 3, 1) := by decide +kernel
theorem d_M_same_6 : decode prog_4_method_9_code 6 = .ok (.iload 4, 2) := by decide +kernel
theorem d_M_same_8 : decode prog_4_method_9_code 8 = .ok (.invokestatic 63, 3) := by decide +kernel
theorem d_M_same_11 : decode prog_4_method_9_code 11 = .ok (.ifCond .ne 5, 3) := by decide +kernel
theorem d_M_same_14 : decode prog_4_method_9_code 14 = .ok (.iconst 0, 1) := by decide +kernel
theorem d_M_same_15 : decode prog_4_method_9_code 15 = .ok (.ireturn, 1) := by decide +kernel
theorem d_M_same_16 : decode prog_4_method_9_code 16 = .ok (.aload_n 0, 1) := by decide +kernel
theorem d_M_same_17 : decode prog_4_method_9_code 17 = .ok (.lload_n 1, 1) := by decide +kernel
theorem d_M_same_18 : decode prog_4_method_9_code 18 = .ok (.iload_n 3, 1) := by decide +kernel
theorem d_M_same_19 : decode prog_4_method_9_code 19 = .ok (.iload 4, 2) := by decide +kernel
theorem d_M_same_21 : decode prog_4_method_9_code 21 = .ok (.bipush 62, 2) := by decide +kernel
theorem d_M_same_23 : decode prog_4_method_9_code 23 = .ok (.invokevirtual 67, 3) := by decide +kernel
theorem d_M_same_26 : decode prog_4_method_9_code 26 = .ok (.aload_n 0, 1) := by decide +kernel
theorem d_M_same_27 : decode prog_4_method_9_code 27 = .ok (.getfield 41, 3) := by decide +kernel
theorem d_M_same_30 : decode prog_4_method_9_code 30 = .ok (.lstore 5, 2) := by decide +kernel
theorem d_M_same_32 : decode prog_4_method_9_code 32 = .ok (.iconst 1, 1) := by decide +kernel
theorem d_M_same_33 : decode prog_4_method_9_code 33 = .ok (.istore 7, 2) := by decide +kernel
theorem d_M_same_35 : decode prog_4_method_9_code 35 = .ok (.aload_n 0, 1) := by decide +kernel
theorem d_M_same_36 : decode prog_4_method_9_code 36 = .ok (.aload_n 0, 1) := by decide +kernel
theorem d_M_same_37 : decode prog_4_method_9_code 37 = .ok (.getfield 33, 3) := by decide +kernel
theorem d_M_same_40 : decode prog_4_method_9_code 40 = .ok (.iload_n 3, 1) := by decide +kernel
theorem d_M_same_41 : decode prog_4_method_9_code 41 = .ok (.i2l, 1) := by decide +kernel
theorem d_M_same_42 : decode prog_4_method_9_code 42 = .ok (.lxor, 1) := by decide +kernel
theorem d_M_same_43 : decode prog_4_method_9_code 43 = .ok (.ldc2_w 55, 3) := by decide +kernel
theorem d_M_same_46 : decode prog_4_method_9_code 46 = .ok (.lmul, 1) := by decide +kernel
theorem d_M_same_47 : decode prog_4_method_9_code 47 = .ok (.iload 4, 2) := by decide +kernel
theorem d_M_same_49 : decode prog_4_method_9_code 49 = .ok (.i2l, 1) := by decide +kernel
theorem d_M_same_50 : decode prog_4_method_9_code 50 = .ok (.ladd, 1) := by decide +kernel
theorem d_M_same_51 : decode prog_4_method_9_code 51 = .ok (.putfield 41, 3) := by decide +kernel
theorem d_M_same_54 : decode prog_4_method_9_code 54 = .ok (.aload_n 0, 1) := by decide +kernel
theorem d_M_same_55 : decode prog_4_method_9_code 55 = .ok (.iload_n 3, 1) := by decide +kernel
theorem d_M_same_56 : decode prog_4_method_9_code 56 = .ok (.iconst 1, 1) := by decide +kernel
theorem d_M_same_57 : decode prog_4_method_9_code 57 = .ok (.if_icmp .ne 12, 3) := by decide +kernel
theorem d_M_same_60 : decode prog_4_method_9_code 60 = .ok (.aload_n 0, 1) := by decide +kernel
theorem d_M_same_61 : decode prog_4_method_9_code 61 = .ok (.bipush 16, 2) := by decide +kernel
theorem d_M_same_63 : decode prog_4_method_9_code 63 = .ok (.invokevirtual 48, 3) := by decide +kernel
theorem d_M_same_66 : decode prog_4_method_9_code 66 = .ok (.goto 5, 3) := by decide +kernel
theorem d_M_same_69 : decode prog_4_method_9_code 69 = .ok (.bipush 8, 2) := by decide +kernel
theorem d_M_same_71 : decode prog_4_method_9_code 71 = .ok (.putfield 52, 3) := by decide +kernel
theorem d_M_same_74 : decode prog_4_method_9_code 74 = .ok (.iconst 0, 1) := by decide +kernel
theorem d_M_same_75 : decode prog_4_method_9_code 75 = .ok (.istore 8, 2) := by decide +kernel
theorem d_M_same_77 : decode prog_4_method_9_code 77 = .ok (.iload 8, 2) := by decide +kernel
theorem d_M_same_79 : decode prog_4_method_9_code 79 = .ok (.iload 4, 2) := by decide +kernel
theorem d_M_same_81 : decode prog_4_method_9_code 81 = .ok (.iconst 2, 1) := by decide +kernel
theorem d_M_same_82 : decode prog_4_method_9_code 82 = .ok (.iadd, 1) := by decide +kernel
theorem d_M_same_83 : decode prog_4_method_9_code 83 = .ok (.if_icmp .ge 220, 3) := by decide +kernel
theorem d_M_same_86 : decode prog_4_method_9_code 86 = .ok (.bipush 62, 2) := by decide +kernel
theorem d_M_same_88 : decode prog_4_method_9_code 88 = .ok (.iload 8, 2) := by decide +kernel
theorem d_M_same_90 : decode prog_4_method_9_code 90 = .ok (.iadd, 1) := by decide +kernel
theorem d_M_same_91 : decode prog_4_method_9_code 91 = .ok (.istore 9, 2) := by decide +kernel
theorem d_M_same_93 : decode prog_4_method_9_code 93 = .ok (.iload 8, 2) := by decide +kernel
theorem d_M_same_95 : decode prog_4_method_9_code 95 = .ok (.iconst 2, 1) := by decide +kernel
theorem d_M_same_96 : decode prog_4_method_9_code 96 = .ok (.if_icmp .ge 8, 3) := by decide +kernel
theorem d_M_same_99 : decode prog_4_method_9_code 99 = .ok (.iload 8, 2) := by decide +kernel
theorem d_M_same_101 : decode prog_4_method_9_code 101 = .ok (.goto 20, 3) := by decide +kernel
theorem d_M_same_104 : decode prog_4_method_9_code 104 = .ok (.aload_n 0, 1) := by decide +kernel
theorem d_M_same_105 : decode prog_4_method_9_code 105 = .ok (.iconst 4, 1) := by decide +kernel
theorem d_M_same_106 : decode prog_4_method_9_code 106 = .ok (.invokevirtual 48, 3) := by decide +kernel
theorem d_M_same_109 : decode prog_4_method_9_code 109 = .ok (.iconst 3, 1) := by decide +kernel
theorem d_M_same_110 : decode prog_4_method_9_code 110 = .ok (.if_icmp .ne 7, 3) := by decide +kernel
theorem d_M_same_113 : decode prog_4_method_9_code 113 = .ok (.iconst 0, 1) := by decide +kernel
theorem d_M_same_114 : decode prog_4_method_9_code 114 = .ok (.goto 7, 3) := by decide +kernel
theorem d_M_same_117 : decode prog_4_method_9_code 117 = .ok (.iload_n 3, 1) := by decide +kernel
theorem d_M_same_118 : decode prog_4_method_9_code 118 = .ok (.invokestatic 57, 3) := by decide +kernel
theorem d_M_same_121 : decode prog_4_method_9_code 121 = .ok (.istore 10, 2) := by decide +kernel
theorem d_M_same_123 : decode prog_4_method_9_code 123 = .ok (.iload 7, 2) := by decide +kernel
theorem d_M_same_125 : decode prog_4_method_9_code 125 = .ok (.ifCond .eq 19, 3) := by decide +kernel
theorem d_M_same_128 : decode prog_4_method_9_code 128 = .ok (.iload 10, 2) := by decide +kernel
theorem d_M_same_130 : decode prog_4_method_9_code 130 = .ok (.aload_n 0, 1) := by decide +kernel
theorem d_M_same_131 : decode prog_4_method_9_code 131 = .ok (.getfield 13, 3) := by decide +kernel
theorem d_M_same_134 : decode prog_4_method_9_code 134 = .ok (.iload 9, 2) := by decide +kernel
theorem d_M_same_136 : decode prog_4_method_9_code 136 = .ok (.iaload, 1) := by decide +kernel
theorem d_M_same_137 : decode prog_4_method_9_code 137 = .ok (.if_icmp .ne 7, 3) := by decide +kernel
theorem d_M_same_140 : decode prog_4_method_9_code 140 = .ok (.iconst 1, 1) := by decide +kernel
theorem d_M_same_141 : decode prog_4_method_9_code 141 = .ok (.goto 4, 3) := by decide +kernel
theorem d_M_same_144 : decode prog_4_method_9_code 144 = .ok (.iconst 0, 1) := by decide +kernel
theorem d_M_same_145 : decode prog_4_method_9_code 145 = .ok (.istore 7, 2) := by decide +kernel
theorem d_M_same_147 : decode prog_4_method_9_code 147 = .ok (.aload_n 0, 1) := by decide +kernel
theorem d_M_same_148 : decode prog_4_method_9_code 148 = .ok (.sipush 1000, 3) := by decide +kernel
theorem d_M_same_151 : decode prog_4_method_9_code 151 = .ok (.invokevirtual 48, 3) := by decide +kernel
theorem d_M_same_154 : decode prog_4_method_9_code 154 = .ok (.aload_n 0, 1) := by decide +kernel
theorem d_M_same_155 : decode prog_4_method_9_code 155 = .ok (.getfield 17, 3) := by decide +kernel
theorem d_M_same_158 : decode prog_4_method_9_code 158 = .ok (.iload 9, 2) := by decide +kernel
theorem d_M_same_160 : decode prog_4_method_9_code 160 = .ok (.iaload, 1) := by decide +kernel
theorem d_M_same_161 : decode prog_4_method_9_code 161 = .ok (.if_icmp .ne 12, 3) := by decide +kernel
theorem d_M_same_164 : decode prog_4_method_9_code 164 = .ok (.iload 7, 2) := by decide +kernel
theorem d_M_same_166 : decode prog_4_method_9_code 166 = .ok (.ifCond .eq 7, 3) := by decide +kernel
theorem d_M_same_169 : decode prog_4_method_9_code 169 = .ok (.iconst 1, 1) := by decide +kernel
theorem d_M_same_170 : decode prog_4_method_9_code 170 = .ok (.goto 4, 3) := by decide +kernel
theorem d_M_same_173 : decode prog_4_method_9_code 173 = .ok (.iconst 0, 1) := by decide +kernel
theorem d_M_same_174 : decode prog_4_method_9_code 174 = .ok (.istore 7, 2) := by decide +kernel
theorem d_M_same_176 : decode prog_4_method_9_code 176 = .ok (.aload_n 0, 1) := by decide +kernel
theorem d_M_same_177 : decode prog_4_method_9_code 177 = .ok (.iload 10, 2) := by decide +kernel
theorem d_M_same_179 : decode prog_4_method_9_code 179 = .ok (.invokevirtual 60, 3) := by decide +kernel
theorem d_M_same_182 : decode prog_4_method_9_code 182 = .ok (.aload_n 0, 1) := by decide +kernel
theorem d_M_same_183 : decode prog_4_method_9_code 183 = .ok (.getfield 20, 3) := by decide +kernel
theorem d_M_same_186 : decode prog_4_method_9_code 186 = .ok (.iload 9, 2) := by decide +kernel
theorem d_M_same_188 : decode prog_4_method_9_code 188 = .ok (.iaload, 1) := by decide +kernel
theorem d_M_same_189 : decode prog_4_method_9_code 189 = .ok (.if_icmp .ne 12, 3) := by decide +kernel
theorem d_M_same_192 : decode prog_4_method_9_code 192 = .ok (.iload 7, 2) := by decide +kernel
theorem d_M_same_194 : decode prog_4_method_9_code 194 = .ok (.ifCond .eq 7, 3) := by decide +kernel
theorem d_M_same_197 : decode prog_4_method_9_code 197 = .ok (.iconst 1, 1) := by decide +kernel
theorem d_M_same_198 : decode prog_4_method_9_code 198 = .ok (.goto 4, 3) := by decide +kernel
theorem d_M_same_201 : decode prog_4_method_9_code 201 = .ok (.iconst 0, 1) := by decide +kernel
theorem d_M_same_202 : decode prog_4_method_9_code 202 = .ok (.istore 7, 2) := by decide +kernel
theorem d_M_same_204 : decode prog_4_method_9_code 204 = .ok (.iconst 1, 1) := by decide +kernel
theorem d_M_same_205 : decode prog_4_method_9_code 205 = .ok (.aload_n 0, 1) := by decide +kernel
theorem d_M_same_206 : decode prog_4_method_9_code 206 = .ok (.bipush 8, 2) := by decide +kernel
theorem d_M_same_208 : decode prog_4_method_9_code 208 = .ok (.invokevirtual 48, 3) := by decide +kernel
theorem d_M_same_211 : decode prog_4_method_9_code 211 = .ok (.ishl, 1) := by decide +kernel
theorem d_M_same_212 : decode prog_4_method_9_code 212 = .ok (.aload_n 0, 1) := by decide +kernel
theorem d_M_same_213 : decode prog_4_method_9_code 213 = .ok (.getfield 26, 3) := by decide +kernel
theorem d_M_same_216 : decode prog_4_method_9_code 216 = .ok (.iload 9, 2) := by decide +kernel
theorem d_M_same_218 : decode prog_4_method_9_code 218 = .ok (.iaload, 1) := by decide +kernel
theorem d_M_same_219 : decode prog_4_method_9_code 219 = .ok (.if_icmp .ne 12, 3) := by decide +kernel
theorem d_M_same_222 : decode prog_4_method_9_code 222 = .ok (.iload 7, 2) := by decide +kernel
theorem d_M_same_224 : decode prog_4_method_9_code 224 = .ok (.ifCond .eq 7, 3) := by decide +kernel
theorem d_M_same_227 : decode prog_4_method_9_code 227 = .ok (.iconst 1, 1) := by decide +kernel
theorem d_M_same_228 : decode prog_4_method_9_code 228 = .ok (.goto 4, 3) := by decide +kernel
theorem d_M_same_231 : decode prog_4_method_9_code 231 = .ok (.iconst 0, 1) := by decide +kernel
theorem d_M_same_232 : decode prog_4_method_9_code 232 = .ok (.istore 7, 2) := by decide +kernel
theorem d_M_same_234 : decode prog_4_method_9_code 234 = .ok (.iload 8, 2) := by decide +kernel
theorem d_M_same_236 : decode prog_4_method_9_code 236 = .ok (.iconst 2, 1) := by decide +kernel
theorem d_M_same_237 : decode prog_4_method_9_code 237 = .ok (.if_icmp .ge 10, 3) := by decide +kernel
theorem d_M_same_240 : decode prog_4_method_9_code 240 = .ok (.iconst 1, 1) := by decide +kernel
theorem d_M_same_241 : decode prog_4_method_9_code 241 = .ok (.iload 8, 2) := by decide +kernel
theorem d_M_same_243 : decode prog_4_method_9_code 243 = .ok (.isub, 1) := by decide +kernel
theorem d_M_same_244 : decode prog_4_method_9_code 244 = .ok (.goto 11, 3) := by decide +kernel
theorem d_M_same_247 : decode prog_4_method_9_code 247 = .ok (.aload_n 0, 1) := by decide +kernel
theorem d_M_same_248 : decode prog_4_method_9_code 248 = .ok (.iload 8, 2) := by decide +kernel
theorem d_M_same_250 : decode prog_4_method_9_code 250 = .ok (.iconst 1, 1) := by decide +kernel
theorem d_M_same_251 : decode prog_4_method_9_code 251 = .ok (.iadd, 1) := by decide +kernel
theorem d_M_same_252 : decode prog_4_method_9_code 252 = .ok (.invokevirtual 48, 3) := by decide +kernel
theorem d_M_same_255 : decode prog_4_method_9_code 255 = .ok (.istore 11, 2) := by decide +kernel
theorem d_M_same_257 : decode prog_4_method_9_code 257 = .ok (.iload 7, 2) := by decide +kernel
theorem d_M_same_259 : decode prog_4_method_9_code 259 = .ok (.ifCond .eq 35, 3) := by decide +kernel
theorem d_M_same_262 : decode prog_4_method_9_code 262 = .ok (.iload 11, 2) := by decide +kernel
theorem d_M_same_264 : decode prog_4_method_9_code 264 = .ok (.iload 8, 2) := by decide +kernel
theorem d_M_same_266 : decode prog_4_method_9_code 266 = .ok (.if_icmp .eq 8, 3) := by decide +kernel
theorem d_M_same_269 : decode prog_4_method_9_code 269 = .ok (.iload 8, 2) := by decide +kernel
theorem d_M_same_271 : decode prog_4_method_9_code 271 = .ok (.ifCond .ne 7, 3) := by decide +kernel
theorem d_M_same_274 : decode prog_4_method_9_code 274 = .ok (.iconst (-1), 1) := by decide +kernel
theorem d_M_same_275 : decode prog_4_method_9_code 275 = .ok (.goto 5, 3) := by decide +kernel
theorem d_M_same_278 : decode prog_4_method_9_code 278 = .ok (.iload 11, 2) := by decide +kernel
theorem d_M_same_280 : decode prog_4_method_9_code 280 = .ok (.aload_n 0, 1) := by decide +kernel
theorem d_M_same_281 : decode prog_4_method_9_code 281 = .ok (.getfield 23, 3) := by decide +kernel
theorem d_M_same_284 : decode prog_4_method_9_code 284 = .ok (.iload 9, 2) := by decide +kernel
theorem d_M_same_286 : decode prog_4_method_9_code 286 = .ok (.iaload, 1) := by decide +kernel
theorem d_M_same_287 : decode prog_4_method_9_code 287 = .ok (.if_icmp .ne 7, 3) := by decide +kernel
theorem d_M_same_290 : decode prog_4_method_9_code 290 = .ok (.iconst 1, 1) := by decide +kernel
theorem d_M_same_291 : decode prog_4_method_9_code 291 = .ok (.goto 4, 3) := by decide +kernel
theorem d_M_same_294 : decode prog_4_method_9_code 294 = .ok (.iconst 0, 1) := by decide +kernel
theorem d_M_same_295 : decode prog_4_method_9_code 295 = .ok (.istore 7, 2) := by decide +kernel
theorem d_M_same_297 : decode prog_4_method_9_code 297 = .ok (.iinc 8 1, 3) := by decide +kernel
theorem d_M_same_300 : decode prog_4_method_9_code 300 = .ok (.goto (-223), 3) := by decide +kernel
theorem d_M_same_303 : decode prog_4_method_9_code 303 = .ok (.aload_n 0, 1) := by decide +kernel
theorem d_M_same_304 : decode prog_4_method_9_code 304 = .ok (.lload 5, 2) := by decide +kernel
theorem d_M_same_306 : decode prog_4_method_9_code 306 = .ok (.putfield 41, 3) := by decide +kernel
theorem d_M_same_309 : decode prog_4_method_9_code 309 = .ok (.iload 7, 2) := by decide +kernel
theorem d_M_same_311 : decode prog_4_method_9_code 311 = .ok (.ireturn, 1) := by decide +kernel
theorem d_M_verdict_0 : decode prog_4_method_10_code 0 = .ok (.aload_n 0, 1) := by decide +kernel
theorem d_M_verdict_1 : decode prog_4_method_10_code 1 = .ok (.iconst 0, 1) := by decide +kernel
theorem d_M_verdict_2 : decode prog_4_method_10_code 2 = .ok (.putfield 37, 3) := by decide +kernel
theorem d_M_verdict_5 : decode prog_4_method_10_code 5 = .ok (.aload_n 0, 1) := by decide +kernel
theorem d_M_verdict_6 : decode prog_4_method_10_code 6 = .ok (.iload_n 1, 1) := by decide +kernel
theorem d_M_verdict_7 : decode prog_4_method_10_code 7 = .ok (.sipush 255, 3) := by decide +kernel
theorem d_M_verdict_10 : decode prog_4_method_10_code 10 = .ok (.iand, 1) := by decide +kernel
theorem d_M_verdict_11 : decode prog_4_method_10_code 11 = .ok (.putfield 74, 3) := by decide +kernel
theorem d_M_verdict_14 : decode prog_4_method_10_code 14 = .ok (.aload_n 0, 1) := by decide +kernel
theorem d_M_verdict_15 : decode prog_4_method_10_code 15 = .ok (.iload_n 2, 1) := by decide +kernel
theorem d_M_verdict_16 : decode prog_4_method_10_code 16 = .ok (.putfield 7, 3) := by decide +kernel
theorem d_M_verdict_19 : decode prog_4_method_10_code 19 = .ok (.return_, 1) := by decide +kernel
theorem d_M_shorter_0 : decode prog_4_method_14_code 0 = .ok (.aload_n 0, 1) := by decide +kernel
theorem d_M_shorter_1 : decode prog_4_method_14_code 1 = .ok (.iconst 0, 1) := by decide +kernel
theorem d_M_shorter_2 : decode prog_4_method_14_code 2 = .ok (.putfield 37, 3) := by decide +kernel
theorem d_M_shorter_5 : decode prog_4_method_14_code 5 = .ok (.aload_n 0, 1) := by decide +kernel
theorem d_M_shorter_6 : decode prog_4_method_14_code 6 = .ok (.iconst (-1), 1) := by decide +kernel
theorem d_M_shorter_7 : decode prog_4_method_14_code 7 = .ok (.invokevirtual 77, 3) := by decide +kernel
theorem d_M_shorter_10 : decode prog_4_method_14_code 10 = .ok (.istore_n 1, 1) := by decide +kernel
theorem d_M_shorter_11 : decode prog_4_method_14_code 11 = .ok (.iload_n 1, 1) := by decide +kernel
theorem d_M_shorter_12 : decode prog_4_method_14_code 12 = .ok (.ifCond .ne 26, 3) := by decide +kernel
theorem d_M_shorter_15 : decode prog_4_method_14_code 15 = .ok (.iconst 0, 1) := by decide +kernel
theorem d_M_shorter_16 : decode prog_4_method_14_code 16 = .ok (.istore_n 2, 1) := by decide +kernel
theorem d_M_shorter_17 : decode prog_4_method_14_code 17 = .ok (.iload_n 2, 1) := by decide +kernel
theorem d_M_shorter_18 : decode prog_4_method_14_code 18 = .ok (.aload_n 0, 1) := by decide +kernel
theorem d_M_shorter_19 : decode prog_4_method_14_code 19 = .ok (.getfield 71, 3) := by decide +kernel
theorem d_M_shorter_22 : decode prog_4_method_14_code 22 = .ok (.if_icmp .ge 16, 3) := by decide +kernel
theorem d_M_shorter_25 : decode prog_4_method_14_code 25 = .ok (.aload_n 0, 1) := by decide +kernel
theorem d_M_shorter_26 : decode prog_4_method_14_code 26 = .ok (.getfield 29, 3) := by decide +kernel
theorem d_M_shorter_29 : decode prog_4_method_14_code 29 = .ok (.iload_n 2, 1) := by decide +kernel
theorem d_M_shorter_30 : decode prog_4_method_14_code 30 = .ok (.iconst 1, 1) := by decide +kernel
theorem d_M_shorter_31 : decode prog_4_method_14_code 31 = .ok (.bastore, 1) := by decide +kernel
theorem d_M_shorter_32 : decode prog_4_method_14_code 32 = .ok (.iinc 2 1, 3) := by decide +kernel
theorem d_M_shorter_35 : decode prog_4_method_14_code 35 = .ok (.goto (-18), 3) := by decide +kernel
theorem d_M_shorter_38 : decode prog_4_method_14_code 38 = .ok (.iload_n 1, 1) := by decide +kernel
theorem d_M_shorter_39 : decode prog_4_method_14_code 39 = .ok (.ifCond .eq 45, 3) := by decide +kernel
theorem d_M_shorter_42 : decode prog_4_method_14_code 42 = .ok (.iconst 0, 1) := by decide +kernel
theorem d_M_shorter_43 : decode prog_4_method_14_code 43 = .ok (.istore_n 1, 1) := by decide +kernel
theorem d_M_shorter_44 : decode prog_4_method_14_code 44 = .ok (.aload_n 0, 1) := by decide +kernel
theorem d_M_shorter_45 : decode prog_4_method_14_code 45 = .ok (.getfield 71, 3) := by decide +kernel
theorem d_M_shorter_48 : decode prog_4_method_14_code 48 = .ok (.iconst 1, 1) := by decide +kernel
theorem d_M_shorter_49 : decode prog_4_method_14_code 49 = .ok (.isub, 1) := by decide +kernel
theorem d_M_shorter_50 : decode prog_4_method_14_code 50 = .ok (.istore_n 2, 1) := by decide +kernel
theorem d_M_shorter_51 : decode prog_4_method_14_code 51 = .ok (.iload_n 2, 1) := by decide +kernel
theorem d_M_shorter_52 : decode prog_4_method_14_code 52 = .ok (.ifCond .lt 29, 3) := by decide +kernel
theorem d_M_shorter_55 : decode prog_4_method_14_code 55 = .ok (.aload_n 0, 1) := by decide +kernel
theorem d_M_shorter_56 : decode prog_4_method_14_code 56 = .ok (.iload_n 2, 1) := by decide +kernel
theorem d_M_shorter_57 : decode prog_4_method_14_code 57 = .ok (.invokevirtual 81, 3) := by decide +kernel
theorem d_M_shorter_60 : decode prog_4_method_14_code 60 = .ok (.ifCond .ne 6, 3) := by decide +kernel
theorem d_M_shorter_63 : decode prog_4_method_14_code 63 = .ok (.goto 12, 3) := by decide +kernel
theorem d_M_shorter_66 : decode prog_4_method_14_code 66 = .ok (.aload_n 0, 1) := by decide +kernel
theorem d_M_shorter_67 : decode prog_4_method_14_code 67 = .ok (.getfield 29, 3) := by decide +kernel
theorem d_M_shorter_70 : decode prog_4_method_14_code 70 = .ok (.iload_n 2, 1) := by decide +kernel
theorem d_M_shorter_71 : decode prog_4_method_14_code 71 = .ok (.iconst 0, 1) := by decide +kernel
theorem d_M_shorter_72 : decode prog_4_method_14_code 72 = .ok (.bastore, 1) := by decide +kernel
theorem d_M_shorter_73 : decode prog_4_method_14_code 73 = .ok (.iconst 1, 1) := by decide +kernel
theorem d_M_shorter_74 : decode prog_4_method_14_code 74 = .ok (.istore_n 1, 1) := by decide +kernel
theorem d_M_shorter_75 : decode prog_4_method_14_code 75 = .ok (.iinc 2 (-1), 3) := by decide +kernel
theorem d_M_shorter_78 : decode prog_4_method_14_code 78 = .ok (.goto (-27), 3) := by decide +kernel
theorem d_M_shorter_81 : decode prog_4_method_14_code 81 = .ok (.goto (-43), 3) := by decide +kernel
theorem d_M_shorter_84 : decode prog_4_method_14_code 84 = .ok (.aload_n 0, 1) := by decide +kernel
theorem d_M_shorter_85 : decode prog_4_method_14_code 85 = .ok (.invokevirtual 84, 3) := by decide +kernel
theorem d_M_shorter_88 : decode prog_4_method_14_code 88 = .ok (.ireturn, 1) := by decide +kernel
theorem d_M_holds_0 : decode prog_4_method_11_code 0 = .ok (.iconst 0, 1) := by decide +kernel
theorem d_M_holds_1 : decode prog_4_method_11_code 1 = .ok (.istore_n 2, 1) := by decide +kernel
theorem d_M_holds_2 : decode prog_4_method_11_code 2 = .ok (.iconst 0, 1) := by decide +kernel
theorem d_M_holds_3 : decode prog_4_method_11_code 3 = .ok (.istore_n 3, 1) := by decide +kernel
theorem d_M_holds_4 : decode prog_4_method_11_code 4 = .ok (.iload_n 3, 1) := by decide +kernel
theorem d_M_holds_5 : decode prog_4_method_11_code 5 = .ok (.aload_n 0, 1) := by decide +kernel
theorem d_M_holds_6 : decode prog_4_method_11_code 6 = .ok (.getfield 71, 3) := by decide +kernel
theorem d_M_holds_9 : decode prog_4_method_11_code 9 = .ok (.if_icmp .ge 36, 3) := by decide +kernel
theorem d_M_holds_12 : decode prog_4_method_11_code 12 = .ok (.iload_n 2, 1) := by decide +kernel
theorem d_M_holds_13 : decode prog_4_method_11_code 13 = .ok (.aload_n 0, 1) := by decide +kernel
theorem d_M_holds_14 : decode prog_4_method_11_code 14 = .ok (.getfield 29, 3) := by decide +kernel
theorem d_M_holds_17 : decode prog_4_method_11_code 17 = .ok (.iload_n 3, 1) := by decide +kernel
theorem d_M_holds_18 : decode prog_4_method_11_code 18 = .ok (.baload, 1) := by decide +kernel
theorem d_M_holds_19 : decode prog_4_method_11_code 19 = .ok (.ifCond .eq 17, 3) := by decide +kernel
theorem d_M_holds_22 : decode prog_4_method_11_code 22 = .ok (.iload_n 3, 1) := by decide +kernel
theorem d_M_holds_23 : decode prog_4_method_11_code 23 = .ok (.iload_n 1, 1) := by decide +kernel
theorem d_M_holds_24 : decode prog_4_method_11_code 24 = .ok (.if_icmp .eq 12, 3) := by decide +kernel
theorem d_M_holds_27 : decode prog_4_method_11_code 27 = .ok (.aload_n 0, 1) := by decide +kernel
theorem d_M_holds_28 : decode prog_4_method_11_code 28 = .ok (.getfield 26, 3) := by decide +kernel
theorem d_M_holds_31 : decode prog_4_method_11_code 31 = .ok (.iload_n 3, 1) := by decide +kernel
theorem d_M_holds_32 : decode prog_4_method_11_code 32 = .ok (.iaload, 1) := by decide +kernel
theorem d_M_holds_33 : decode prog_4_method_11_code 33 = .ok (.goto 4, 3) := by decide +kernel
theorem d_M_holds_36 : decode prog_4_method_11_code 36 = .ok (.iconst 0, 1) := by decide +kernel
theorem d_M_holds_37 : decode prog_4_method_11_code 37 = .ok (.ior, 1) := by decide +kernel
theorem d_M_holds_38 : decode prog_4_method_11_code 38 = .ok (.istore_n 2, 1) := by decide +kernel
theorem d_M_holds_39 : decode prog_4_method_11_code 39 = .ok (.iinc 3 1, 3) := by decide +kernel
theorem d_M_holds_42 : decode prog_4_method_11_code 42 = .ok (.goto (-38), 3) := by decide +kernel
theorem d_M_holds_45 : decode prog_4_method_11_code 45 = .ok (.aload_n 0, 1) := by decide +kernel
theorem d_M_holds_46 : decode prog_4_method_11_code 46 = .ok (.getfield 74, 3) := by decide +kernel
theorem d_M_holds_49 : decode prog_4_method_11_code 49 = .ok (.iload_n 2, 1) := by decide +kernel
theorem d_M_holds_50 : decode prog_4_method_11_code 50 = .ok (.iconst (-1), 1) := by decide +kernel
theorem d_M_holds_51 : decode prog_4_method_11_code 51 = .ok (.ixor, 1) := by decide +kernel
theorem d_M_holds_52 : decode prog_4_method_11_code 52 = .ok (.iand, 1) := by decide +kernel
theorem d_M_holds_53 : decode prog_4_method_11_code 53 = .ok (.ifCond .ne 7, 3) := by decide +kernel
theorem d_M_holds_56 : decode prog_4_method_11_code 56 = .ok (.iconst 1, 1) := by decide +kernel
theorem d_M_holds_57 : decode prog_4_method_11_code 57 = .ok (.goto 4, 3) := by decide +kernel
theorem d_M_holds_60 : decode prog_4_method_11_code 60 = .ok (.iconst 0, 1) := by decide +kernel
theorem d_M_holds_61 : decode prog_4_method_11_code 61 = .ok (.aload_n 0, 1) := by decide +kernel
theorem d_M_holds_62 : decode prog_4_method_11_code 62 = .ok (.getfield 7, 3) := by decide +kernel
theorem d_M_holds_65 : decode prog_4_method_11_code 65 = .ok (.if_icmp .ne 7, 3) := by decide +kernel
theorem d_M_holds_68 : decode prog_4_method_11_code 68 = .ok (.iconst 1, 1) := by decide +kernel
theorem d_M_holds_69 : decode prog_4_method_11_code 69 = .ok (.goto 4, 3) := by decide +kernel
theorem d_M_holds_72 : decode prog_4_method_11_code 72 = .ok (.iconst 0, 1) := by decide +kernel
theorem d_M_holds_73 : decode prog_4_method_11_code 73 = .ok (.ireturn, 1) := by decide +kernel
theorem d_M_canGo_0 : decode prog_4_method_12_code 0 = .ok (.aload_n 0, 1) := by decide +kernel
theorem d_M_canGo_1 : decode prog_4_method_12_code 1 = .ok (.getfield 29, 3) := by decide +kernel
theorem d_M_canGo_4 : decode prog_4_method_12_code 4 = .ok (.iload_n 1, 1) := by decide +kernel
theorem d_M_canGo_5 : decode prog_4_method_12_code 5 = .ok (.baload, 1) := by decide +kernel
theorem d_M_canGo_6 : decode prog_4_method_12_code 6 = .ok (.ifCond .ne 5, 3) := by decide +kernel
theorem d_M_canGo_9 : decode prog_4_method_12_code 9 = .ok (.iconst 0, 1) := by decide +kernel
theorem d_M_canGo_10 : decode prog_4_method_12_code 10 = .ok (.ireturn, 1) := by decide +kernel
theorem d_M_canGo_11 : decode prog_4_method_12_code 11 = .ok (.iconst 0, 1) := by decide +kernel
theorem d_M_canGo_12 : decode prog_4_method_12_code 12 = .ok (.istore_n 2, 1) := by decide +kernel
theorem d_M_canGo_13 : decode prog_4_method_12_code 13 = .ok (.iload_n 2, 1) := by decide +kernel
theorem d_M_canGo_14 : decode prog_4_method_12_code 14 = .ok (.aload_n 0, 1) := by decide +kernel
theorem d_M_canGo_15 : decode prog_4_method_12_code 15 = .ok (.getfield 71, 3) := by decide +kernel
theorem d_M_canGo_18 : decode prog_4_method_12_code 18 = .ok (.if_icmp .ge 35, 3) := by decide +kernel
theorem d_M_canGo_21 : decode prog_4_method_12_code 21 = .ok (.iload_n 2, 1) := by decide +kernel
theorem d_M_canGo_22 : decode prog_4_method_12_code 22 = .ok (.iload_n 1, 1) := by decide +kernel
theorem d_M_canGo_23 : decode prog_4_method_12_code 23 = .ok (.if_icmp .eq 24, 3) := by decide +kernel
theorem d_M_canGo_26 : decode prog_4_method_12_code 26 = .ok (.aload_n 0, 1) := by decide +kernel
theorem d_M_canGo_27 : decode prog_4_method_12_code 27 = .ok (.getfield 29, 3) := by decide +kernel
theorem d_M_canGo_30 : decode prog_4_method_12_code 30 = .ok (.iload_n 2, 1) := by decide +kernel
theorem d_M_canGo_31 : decode prog_4_method_12_code 31 = .ok (.baload, 1) := by decide +kernel
theorem d_M_canGo_32 : decode prog_4_method_12_code 32 = .ok (.ifCond .eq 15, 3) := by decide +kernel
theorem d_M_canGo_35 : decode prog_4_method_12_code 35 = .ok (.aload_n 0, 1) := by decide +kernel
theorem d_M_canGo_36 : decode prog_4_method_12_code 36 = .ok (.getfield 23, 3) := by decide +kernel
theorem d_M_canGo_39 : decode prog_4_method_12_code 39 = .ok (.iload_n 2, 1) := by decide +kernel
theorem d_M_canGo_40 : decode prog_4_method_12_code 40 = .ok (.iaload, 1) := by decide +kernel
theorem d_M_canGo_41 : decode prog_4_method_12_code 41 = .ok (.iload_n 1, 1) := by decide +kernel
theorem d_M_canGo_42 : decode prog_4_method_12_code 42 = .ok (.if_icmp .ne 5, 3) := by decide +kernel
theorem d_M_canGo_45 : decode prog_4_method_12_code 45 = .ok (.iconst 0, 1) := by decide +kernel
theorem d_M_canGo_46 : decode prog_4_method_12_code 46 = .ok (.ireturn, 1) := by decide +kernel
theorem d_M_canGo_47 : decode prog_4_method_12_code 47 = .ok (.iinc 2 1, 3) := by decide +kernel
theorem d_M_canGo_50 : decode prog_4_method_12_code 50 = .ok (.goto (-37), 3) := by decide +kernel
theorem d_M_canGo_53 : decode prog_4_method_12_code 53 = .ok (.aload_n 0, 1) := by decide +kernel
theorem d_M_canGo_54 : decode prog_4_method_12_code 54 = .ok (.iload_n 1, 1) := by decide +kernel
theorem d_M_canGo_55 : decode prog_4_method_12_code 55 = .ok (.invokevirtual 77, 3) := by decide +kernel
theorem d_M_canGo_58 : decode prog_4_method_12_code 58 = .ok (.ireturn, 1) := by decide +kernel
theorem d_M_count_0 : decode prog_4_method_13_code 0 = .ok (.iconst 0, 1) := by decide +kernel
theorem d_M_count_1 : decode prog_4_method_13_code 1 = .ok (.istore_n 1, 1) := by decide +kernel
theorem d_M_count_2 : decode prog_4_method_13_code 2 = .ok (.iconst 0, 1) := by decide +kernel
theorem d_M_count_3 : decode prog_4_method_13_code 3 = .ok (.istore_n 2, 1) := by decide +kernel
theorem d_M_count_4 : decode prog_4_method_13_code 4 = .ok (.iload_n 2, 1) := by decide +kernel
theorem d_M_count_5 : decode prog_4_method_13_code 5 = .ok (.aload_n 0, 1) := by decide +kernel
theorem d_M_count_6 : decode prog_4_method_13_code 6 = .ok (.getfield 71, 3) := by decide +kernel
theorem d_M_count_9 : decode prog_4_method_13_code 9 = .ok (.if_icmp .ge 26, 3) := by decide +kernel
theorem d_M_count_12 : decode prog_4_method_13_code 12 = .ok (.iload_n 1, 1) := by decide +kernel
theorem d_M_count_13 : decode prog_4_method_13_code 13 = .ok (.aload_n 0, 1) := by decide +kernel
theorem d_M_count_14 : decode prog_4_method_13_code 14 = .ok (.getfield 29, 3) := by decide +kernel
theorem d_M_count_17 : decode prog_4_method_13_code 17 = .ok (.iload_n 2, 1) := by decide +kernel
theorem d_M_count_18 : decode prog_4_method_13_code 18 = .ok (.baload, 1) := by decide +kernel
theorem d_M_count_19 : decode prog_4_method_13_code 19 = .ok (.ifCond .eq 7, 3) := by decide +kernel
theorem d_M_count_22 : decode prog_4_method_13_code 22 = .ok (.iconst 1, 1) := by decide +kernel
theorem d_M_count_23 : decode prog_4_method_13_code 23 = .ok (.goto 4, 3) := by decide +kernel
theorem d_M_count_26 : decode prog_4_method_13_code 26 = .ok (.iconst 0, 1) := by decide +kernel
theorem d_M_count_27 : decode prog_4_method_13_code 27 = .ok (.iadd, 1) := by decide +kernel
theorem d_M_count_28 : decode prog_4_method_13_code 28 = .ok (.istore_n 1, 1) := by decide +kernel
theorem d_M_count_29 : decode prog_4_method_13_code 29 = .ok (.iinc 2 1, 3) := by decide +kernel
theorem d_M_count_32 : decode prog_4_method_13_code 32 = .ok (.goto (-28), 3) := by decide +kernel
theorem d_M_count_35 : decode prog_4_method_13_code 35 = .ok (.iload_n 1, 1) := by decide +kernel
theorem d_M_count_36 : decode prog_4_method_13_code 36 = .ok (.ireturn, 1) := by decide +kernel
theorem d_M_minimal_0 : decode prog_4_method_15_code 0 = .ok (.aload_n 0, 1) := by decide +kernel
theorem d_M_minimal_1 : decode prog_4_method_15_code 1 = .ok (.iconst 0, 1) := by decide +kernel
theorem d_M_minimal_2 : decode prog_4_method_15_code 2 = .ok (.putfield 37, 3) := by decide +kernel
theorem d_M_minimal_5 : decode prog_4_method_15_code 5 = .ok (.iconst 1, 1) := by decide +kernel
theorem d_M_minimal_6 : decode prog_4_method_15_code 6 = .ok (.istore_n 1, 1) := by decide +kernel
theorem d_M_minimal_7 : decode prog_4_method_15_code 7 = .ok (.iconst 0, 1) := by decide +kernel
theorem d_M_minimal_8 : decode prog_4_method_15_code 8 = .ok (.istore_n 2, 1) := by decide +kernel
theorem d_M_minimal_9 : decode prog_4_method_15_code 9 = .ok (.iload_n 2, 1) := by decide +kernel
theorem d_M_minimal_10 : decode prog_4_method_15_code 10 = .ok (.aload_n 0, 1) := by decide +kernel
theorem d_M_minimal_11 : decode prog_4_method_15_code 11 = .ok (.getfield 71, 3) := by decide +kernel
theorem d_M_minimal_14 : decode prog_4_method_15_code 14 = .ok (.if_icmp .ge 27, 3) := by decide +kernel
theorem d_M_minimal_17 : decode prog_4_method_15_code 17 = .ok (.iload_n 1, 1) := by decide +kernel
theorem d_M_minimal_18 : decode prog_4_method_15_code 18 = .ok (.ifCond .eq 15, 3) := by decide +kernel
theorem d_M_minimal_21 : decode prog_4_method_15_code 21 = .ok (.aload_n 0, 1) := by decide +kernel
theorem d_M_minimal_22 : decode prog_4_method_15_code 22 = .ok (.iload_n 2, 1) := by decide +kernel
theorem d_M_minimal_23 : decode prog_4_method_15_code 23 = .ok (.invokevirtual 81, 3) := by decide +kernel
theorem d_M_minimal_26 : decode prog_4_method_15_code 26 = .ok (.ifCond .ne 7, 3) := by decide +kernel
theorem d_M_minimal_29 : decode prog_4_method_15_code 29 = .ok (.iconst 1, 1) := by decide +kernel
theorem d_M_minimal_30 : decode prog_4_method_15_code 30 = .ok (.goto 4, 3) := by decide +kernel
theorem d_M_minimal_33 : decode prog_4_method_15_code 33 = .ok (.iconst 0, 1) := by decide +kernel
theorem d_M_minimal_34 : decode prog_4_method_15_code 34 = .ok (.istore_n 1, 1) := by decide +kernel
theorem d_M_minimal_35 : decode prog_4_method_15_code 35 = .ok (.iinc 2 1, 3) := by decide +kernel
theorem d_M_minimal_38 : decode prog_4_method_15_code 38 = .ok (.goto (-29), 3) := by decide +kernel
theorem d_M_minimal_41 : decode prog_4_method_15_code 41 = .ok (.iload_n 1, 1) := by decide +kernel
theorem d_M_minimal_42 : decode prog_4_method_15_code 42 = .ok (.ireturn, 1) := by decide +kernel
theorem d_M_left_0 : decode prog_4_method_16_code 0 = .ok (.aload_n 0, 1) := by decide +kernel
theorem d_M_left_1 : decode prog_4_method_16_code 1 = .ok (.iconst 0, 1) := by decide +kernel
theorem d_M_left_2 : decode prog_4_method_16_code 2 = .ok (.putfield 37, 3) := by decide +kernel
theorem d_M_left_5 : decode prog_4_method_16_code 5 = .ok (.iload_n 1, 1) := by decide +kernel
theorem d_M_left_6 : decode prog_4_method_16_code 6 = .ok (.istore_n 2, 1) := by decide +kernel
theorem d_M_left_7 : decode prog_4_method_16_code 7 = .ok (.iconst 0, 1) := by decide +kernel
theorem d_M_left_8 : decode prog_4_method_16_code 8 = .ok (.istore_n 3, 1) := by decide +kernel
theorem d_M_left_9 : decode prog_4_method_16_code 9 = .ok (.iload_n 3, 1) := by decide +kernel
theorem d_M_left_10 : decode prog_4_method_16_code 10 = .ok (.aload_n 0, 1) := by decide +kernel
theorem d_M_left_11 : decode prog_4_method_16_code 11 = .ok (.getfield 71, 3) := by decide +kernel
theorem d_M_left_14 : decode prog_4_method_16_code 14 = .ok (.if_icmp .ge 34, 3) := by decide +kernel
theorem d_M_left_17 : decode prog_4_method_16_code 17 = .ok (.iload_n 1, 1) := by decide +kernel
theorem d_M_left_18 : decode prog_4_method_16_code 18 = .ok (.ifCond .lt 30, 3) := by decide +kernel
theorem d_M_left_21 : decode prog_4_method_16_code 21 = .ok (.aload_n 0, 1) := by decide +kernel
theorem d_M_left_22 : decode prog_4_method_16_code 22 = .ok (.getfield 29, 3) := by decide +kernel
theorem d_M_left_25 : decode prog_4_method_16_code 25 = .ok (.iload_n 3, 1) := by decide +kernel
theorem d_M_left_26 : decode prog_4_method_16_code 26 = .ok (.baload, 1) := by decide +kernel
theorem d_M_left_27 : decode prog_4_method_16_code 27 = .ok (.ifCond .ne 6, 3) := by decide +kernel
theorem d_M_left_30 : decode prog_4_method_16_code 30 = .ok (.goto 12, 3) := by decide +kernel
theorem d_M_left_33 : decode prog_4_method_16_code 33 = .ok (.iload_n 2, 1) := by decide +kernel
theorem d_M_left_34 : decode prog_4_method_16_code 34 = .ok (.ifCond .ne 5, 3) := by decide +kernel
theorem d_M_left_37 : decode prog_4_method_16_code 37 = .ok (.iload_n 3, 1) := by decide +kernel
theorem d_M_left_38 : decode prog_4_method_16_code 38 = .ok (.ireturn, 1) := by decide +kernel
theorem d_M_left_39 : decode prog_4_method_16_code 39 = .ok (.iinc 2 (-1), 3) := by decide +kernel
theorem d_M_left_42 : decode prog_4_method_16_code 42 = .ok (.iinc 3 1, 3) := by decide +kernel
theorem d_M_left_45 : decode prog_4_method_16_code 45 = .ok (.goto (-36), 3) := by decide +kernel
theorem d_M_left_48 : decode prog_4_method_16_code 48 = .ok (.iconst (-1), 1) := by decide +kernel
theorem d_M_left_49 : decode prog_4_method_16_code 49 = .ok (.ireturn, 1) := by decide +kernel
theorem d_M_part_0 : decode prog_4_method_17_code 0 = .ok (.aload_n 0, 1) := by decide +kernel
theorem d_M_part_1 : decode prog_4_method_17_code 1 = .ok (.iconst 0, 1) := by decide +kernel
theorem d_M_part_2 : decode prog_4_method_17_code 2 = .ok (.putfield 37, 3) := by decide +kernel
theorem d_M_part_5 : decode prog_4_method_17_code 5 = .ok (.iload_n 1, 1) := by decide +kernel
theorem d_M_part_6 : decode prog_4_method_17_code 6 = .ok (.ifCond .lt 11, 3) := by decide +kernel
theorem d_M_part_9 : decode prog_4_method_17_code 9 = .ok (.iload_n 1, 1) := by decide +kernel
theorem d_M_part_10 : decode prog_4_method_17_code 10 = .ok (.aload_n 0, 1) := by decide +kernel
theorem d_M_part_11 : decode prog_4_method_17_code 11 = .ok (.getfield 71, 3) := by decide +kernel
theorem d_M_part_14 : decode prog_4_method_17_code 14 = .ok (.if_icmp .lt 7, 3) := by decide +kernel
theorem d_M_part_17 : decode prog_4_method_17_code 17 = .ok (.ldc2_w 88, 3) := by decide +kernel
theorem d_M_part_20 : decode prog_4_method_17_code 20 = .ok (.lreturn, 1) := by decide +kernel
theorem d_M_part_21 : decode prog_4_method_17_code 21 = .ok (.iload_n 2, 1) := by decide +kernel
theorem d_M_part_22 : decode prog_4_method_17_code 22 = .ok (.tableswitch 102 0 6 #[42, 50, 58, 66, 74, 82, 97], 42) := by decide +kernel
theorem d_M_part_64 : decode prog_4_method_17_code 64 = .ok (.aload_n 0, 1) := by decide +kernel
theorem d_M_part_65 : decode prog_4_method_17_code 65 = .ok (.getfield 13, 3) := by decide +kernel
theorem d_M_part_68 : decode prog_4_method_17_code 68 = .ok (.iload_n 1, 1) := by decide +kernel
theorem d_M_part_69 : decode prog_4_method_17_code 69 = .ok (.iaload, 1) := by decide +kernel
theorem d_M_part_70 : decode prog_4_method_17_code 70 = .ok (.i2l, 1) := by decide +kernel
theorem d_M_part_71 : decode prog_4_method_17_code 71 = .ok (.lreturn, 1) := by decide +kernel
theorem d_M_part_72 : decode prog_4_method_17_code 72 = .ok (.aload_n 0, 1) := by decide +kernel
theorem d_M_part_73 : decode prog_4_method_17_code 73 = .ok (.getfield 17, 3) := by decide +kernel
theorem d_M_part_76 : decode prog_4_method_17_code 76 = .ok (.iload_n 1, 1) := by decide +kernel
theorem d_M_part_77 : decode prog_4_method_17_code 77 = .ok (.iaload, 1) := by decide +kernel
theorem d_M_part_78 : decode prog_4_method_17_code 78 = .ok (.i2l, 1) := by decide +kernel
theorem d_M_part_79 : decode prog_4_method_17_code 79 = .ok (.lreturn, 1) := by decide +kernel
theorem d_M_part_80 : decode prog_4_method_17_code 80 = .ok (.aload_n 0, 1) := by decide +kernel
theorem d_M_part_81 : decode prog_4_method_17_code 81 = .ok (.getfield 20, 3) := by decide +kernel
theorem d_M_part_84 : decode prog_4_method_17_code 84 = .ok (.iload_n 1, 1) := by decide +kernel
theorem d_M_part_85 : decode prog_4_method_17_code 85 = .ok (.iaload, 1) := by decide +kernel
theorem d_M_part_86 : decode prog_4_method_17_code 86 = .ok (.i2l, 1) := by decide +kernel
theorem d_M_part_87 : decode prog_4_method_17_code 87 = .ok (.lreturn, 1) := by decide +kernel
theorem d_M_part_88 : decode prog_4_method_17_code 88 = .ok (.aload_n 0, 1) := by decide +kernel
theorem d_M_part_89 : decode prog_4_method_17_code 89 = .ok (.getfield 23, 3) := by decide +kernel
theorem d_M_part_92 : decode prog_4_method_17_code 92 = .ok (.iload_n 1, 1) := by decide +kernel
theorem d_M_part_93 : decode prog_4_method_17_code 93 = .ok (.iaload, 1) := by decide +kernel
theorem d_M_part_94 : decode prog_4_method_17_code 94 = .ok (.i2l, 1) := by decide +kernel
theorem d_M_part_95 : decode prog_4_method_17_code 95 = .ok (.lreturn, 1) := by decide +kernel
theorem d_M_part_96 : decode prog_4_method_17_code 96 = .ok (.aload_n 0, 1) := by decide +kernel
theorem d_M_part_97 : decode prog_4_method_17_code 97 = .ok (.getfield 26, 3) := by decide +kernel
theorem d_M_part_100 : decode prog_4_method_17_code 100 = .ok (.iload_n 1, 1) := by decide +kernel
theorem d_M_part_101 : decode prog_4_method_17_code 101 = .ok (.iaload, 1) := by decide +kernel
theorem d_M_part_102 : decode prog_4_method_17_code 102 = .ok (.i2l, 1) := by decide +kernel
theorem d_M_part_103 : decode prog_4_method_17_code 103 = .ok (.lreturn, 1) := by decide +kernel
theorem d_M_part_104 : decode prog_4_method_17_code 104 = .ok (.aload_n 0, 1) := by decide +kernel
theorem d_M_part_105 : decode prog_4_method_17_code 105 = .ok (.getfield 29, 3) := by decide +kernel
theorem d_M_part_108 : decode prog_4_method_17_code 108 = .ok (.iload_n 1, 1) := by decide +kernel
theorem d_M_part_109 : decode prog_4_method_17_code 109 = .ok (.baload, 1) := by decide +kernel
theorem d_M_part_110 : decode prog_4_method_17_code 110 = .ok (.ifCond .eq 7, 3) := by decide +kernel
theorem d_M_part_113 : decode prog_4_method_17_code 113 = .ok (.lconst 1, 1) := by decide +kernel
theorem d_M_part_114 : decode prog_4_method_17_code 114 = .ok (.goto 4, 3) := by decide +kernel
theorem d_M_part_117 : decode prog_4_method_17_code 117 = .ok (.lconst 0, 1) := by decide +kernel
theorem d_M_part_118 : decode prog_4_method_17_code 118 = .ok (.lreturn, 1) := by decide +kernel
theorem d_M_part_119 : decode prog_4_method_17_code 119 = .ok (.aload_n 0, 1) := by decide +kernel
theorem d_M_part_120 : decode prog_4_method_17_code 120 = .ok (.invokevirtual 90, 3) := by decide +kernel
theorem d_M_part_123 : decode prog_4_method_17_code 123 = .ok (.lreturn, 1) := by decide +kernel
theorem d_M_part_124 : decode prog_4_method_17_code 124 = .ok (.ldc2_w 94, 3) := by decide +kernel
theorem d_M_part_127 : decode prog_4_method_17_code 127 = .ok (.lreturn, 1) := by decide +kernel
theorem d_M_shared_0 : decode prog_4_method_18_code 0 = .ok (.sipush 255, 3) := by decide +kernel
theorem d_M_shared_3 : decode prog_4_method_18_code 3 = .ok (.istore_n 1, 1) := by decide +kernel
theorem d_M_shared_4 : decode prog_4_method_18_code 4 = .ok (.iconst 0, 1) := by decide +kernel
theorem d_M_shared_5 : decode prog_4_method_18_code 5 = .ok (.istore_n 2, 1) := by decide +kernel
theorem d_M_shared_6 : decode prog_4_method_18_code 6 = .ok (.iload_n 2, 1) := by decide +kernel
theorem d_M_shared_7 : decode prog_4_method_18_code 7 = .ok (.aload_n 0, 1) := by decide +kernel
theorem d_M_shared_8 : decode prog_4_method_18_code 8 = .ok (.getfield 71, 3) := by decide +kernel
theorem d_M_shared_11 : decode prog_4_method_18_code 11 = .ok (.if_icmp .ge 37, 3) := by decide +kernel
theorem d_M_shared_14 : decode prog_4_method_18_code 14 = .ok (.aload_n 0, 1) := by decide +kernel
theorem d_M_shared_15 : decode prog_4_method_18_code 15 = .ok (.getfield 29, 3) := by decide +kernel
theorem d_M_shared_18 : decode prog_4_method_18_code 18 = .ok (.iload_n 2, 1) := by decide +kernel
theorem d_M_shared_19 : decode prog_4_method_18_code 19 = .ok (.baload, 1) := by decide +kernel
theorem d_M_shared_20 : decode prog_4_method_18_code 20 = .ok (.ifCond .eq 22, 3) := by decide +kernel
theorem d_M_shared_23 : decode prog_4_method_18_code 23 = .ok (.aload_n 0, 1) := by decide +kernel
theorem d_M_shared_24 : decode prog_4_method_18_code 24 = .ok (.getfield 13, 3) := by decide +kernel
theorem d_M_shared_27 : decode prog_4_method_18_code 27 = .ok (.iload_n 2, 1) := by decide +kernel
theorem d_M_shared_28 : decode prog_4_method_18_code 28 = .ok (.iaload, 1) := by decide +kernel
theorem d_M_shared_29 : decode prog_4_method_18_code 29 = .ok (.iconst 2, 1) := by decide +kernel
theorem d_M_shared_30 : decode prog_4_method_18_code 30 = .ok (.if_icmp .ne 12, 3) := by decide +kernel
theorem d_M_shared_33 : decode prog_4_method_18_code 33 = .ok (.iload_n 1, 1) := by decide +kernel
theorem d_M_shared_34 : decode prog_4_method_18_code 34 = .ok (.aload_n 0, 1) := by decide +kernel
theorem d_M_shared_35 : decode prog_4_method_18_code 35 = .ok (.getfield 20, 3) := by decide +kernel
theorem d_M_shared_38 : decode prog_4_method_18_code 38 = .ok (.iload_n 2, 1) := by decide +kernel
theorem d_M_shared_39 : decode prog_4_method_18_code 39 = .ok (.iaload, 1) := by decide +kernel
theorem d_M_shared_40 : decode prog_4_method_18_code 40 = .ok (.iand, 1) := by decide +kernel
theorem d_M_shared_41 : decode prog_4_method_18_code 41 = .ok (.istore_n 1, 1) := by decide +kernel
theorem d_M_shared_42 : decode prog_4_method_18_code 42 = .ok (.iinc 2 1, 3) := by decide +kernel
theorem d_M_shared_45 : decode prog_4_method_18_code 45 = .ok (.goto (-39), 3) := by decide +kernel
theorem d_M_shared_48 : decode prog_4_method_18_code 48 = .ok (.iconst 0, 1) := by decide +kernel
theorem d_M_shared_49 : decode prog_4_method_18_code 49 = .ok (.istore_n 2, 1) := by decide +kernel
theorem d_M_shared_50 : decode prog_4_method_18_code 50 = .ok (.iconst 0, 1) := by decide +kernel
theorem d_M_shared_51 : decode prog_4_method_18_code 51 = .ok (.istore_n 3, 1) := by decide +kernel
theorem d_M_shared_52 : decode prog_4_method_18_code 52 = .ok (.iload_n 3, 1) := by decide +kernel
theorem d_M_shared_53 : decode prog_4_method_18_code 53 = .ok (.bipush 8, 2) := by decide +kernel
theorem d_M_shared_55 : decode prog_4_method_18_code 55 = .ok (.if_icmp .ge 17, 3) := by decide +kernel
theorem d_M_shared_58 : decode prog_4_method_18_code 58 = .ok (.iload_n 2, 1) := by decide +kernel
theorem d_M_shared_59 : decode prog_4_method_18_code 59 = .ok (.iload_n 1, 1) := by decide +kernel
theorem d_M_shared_60 : decode prog_4_method_18_code 60 = .ok (.iload_n 3, 1) := by decide +kernel
theorem d_M_shared_61 : decode prog_4_method_18_code 61 = .ok (.ishr, 1) := by decide +kernel
theorem d_M_shared_62 : decode prog_4_method_18_code 62 = .ok (.iconst 1, 1) := by decide +kernel
theorem d_M_shared_63 : decode prog_4_method_18_code 63 = .ok (.iand, 1) := by decide +kernel
theorem d_M_shared_64 : decode prog_4_method_18_code 64 = .ok (.iadd, 1) := by decide +kernel
theorem d_M_shared_65 : decode prog_4_method_18_code 65 = .ok (.istore_n 2, 1) := by decide +kernel
theorem d_M_shared_66 : decode prog_4_method_18_code 66 = .ok (.iinc 3 1, 3) := by decide +kernel
theorem d_M_shared_69 : decode prog_4_method_18_code 69 = .ok (.goto (-17), 3) := by decide +kernel
theorem d_M_shared_72 : decode prog_4_method_18_code 72 = .ok (.iload_n 2, 1) := by decide +kernel
theorem d_M_shared_73 : decode prog_4_method_18_code 73 = .ok (.i2l, 1) := by decide +kernel
theorem d_M_shared_74 : decode prog_4_method_18_code 74 = .ok (.lreturn, 1) := by decide +kernel
theorem d_M_letter_0 : decode prog_4_method_22_code 0 = .ok (.aload_n 0, 1) := by decide +kernel
theorem d_M_letter_1 : decode prog_4_method_22_code 1 = .ok (.iconst 0, 1) := by decide +kernel
theorem d_M_letter_2 : decode prog_4_method_22_code 2 = .ok (.putfield 37, 3) := by decide +kernel
theorem d_M_letter_5 : decode prog_4_method_22_code 5 = .ok (.aload_n 0, 1) := by decide +kernel
theorem d_M_letter_6 : decode prog_4_method_22_code 6 = .ok (.iload_n 1, 1) := by decide +kernel
theorem d_M_letter_7 : decode prog_4_method_22_code 7 = .ok (.putfield 99, 3) := by decide +kernel
theorem d_M_letter_10 : decode prog_4_method_22_code 10 = .ok (.aload_n 0, 1) := by decide +kernel
theorem d_M_letter_11 : decode prog_4_method_22_code 11 = .ok (.iconst (-1), 1) := by decide +kernel
theorem d_M_letter_12 : decode prog_4_method_22_code 12 = .ok (.putfield 102, 3) := by decide +kernel
theorem d_M_letter_15 : decode prog_4_method_22_code 15 = .ok (.aload_n 0, 1) := by decide +kernel
theorem d_M_letter_16 : decode prog_4_method_22_code 16 = .ok (.iconst 0, 1) := by decide +kernel
theorem d_M_letter_17 : decode prog_4_method_22_code 17 = .ok (.putfield 96, 3) := by decide +kernel
theorem d_M_letter_20 : decode prog_4_method_22_code 20 = .ok (.iconst 0, 1) := by decide +kernel
theorem d_M_letter_21 : decode prog_4_method_22_code 21 = .ok (.istore_n 2, 1) := by decide +kernel
theorem d_M_letter_22 : decode prog_4_method_22_code 22 = .ok (.iload_n 2, 1) := by decide +kernel
theorem d_M_letter_23 : decode prog_4_method_22_code 23 = .ok (.aload_n 0, 1) := by decide +kernel
theorem d_M_letter_24 : decode prog_4_method_22_code 24 = .ok (.getfield 71, 3) := by decide +kernel
theorem d_M_letter_27 : decode prog_4_method_22_code 27 = .ok (.if_icmp .ge 109, 3) := by decide +kernel
theorem d_M_letter_30 : decode prog_4_method_22_code 30 = .ok (.aload_n 0, 1) := by decide +kernel
theorem d_M_letter_31 : decode prog_4_method_22_code 31 = .ok (.getfield 29, 3) := by decide +kernel
theorem d_M_letter_34 : decode prog_4_method_22_code 34 = .ok (.iload_n 2, 1) := by decide +kernel
theorem d_M_letter_35 : decode prog_4_method_22_code 35 = .ok (.baload, 1) := by decide +kernel
theorem d_M_letter_36 : decode prog_4_method_22_code 36 = .ok (.ifCond .ne 6, 3) := by decide +kernel
theorem d_M_letter_39 : decode prog_4_method_22_code 39 = .ok (.goto 91, 3) := by decide +kernel
theorem d_M_letter_42 : decode prog_4_method_22_code 42 = .ok (.aload_n 0, 1) := by decide +kernel
theorem d_M_letter_43 : decode prog_4_method_22_code 43 = .ok (.aload_n 0, 1) := by decide +kernel
theorem d_M_letter_44 : decode prog_4_method_22_code 44 = .ok (.getfield 13, 3) := by decide +kernel
theorem d_M_letter_47 : decode prog_4_method_22_code 47 = .ok (.iload_n 2, 1) := by decide +kernel
theorem d_M_letter_48 : decode prog_4_method_22_code 48 = .ok (.iaload, 1) := by decide +kernel
theorem d_M_letter_49 : decode prog_4_method_22_code 49 = .ok (.invokestatic 109, 3) := by decide +kernel
theorem d_M_letter_52 : decode prog_4_method_22_code 52 = .ok (.invokevirtual 105, 3) := by decide +kernel
theorem d_M_letter_55 : decode prog_4_method_22_code 55 = .ok (.aload_n 0, 1) := by decide +kernel
theorem d_M_letter_56 : decode prog_4_method_22_code 56 = .ok (.iload_n 2, 1) := by decide +kernel
theorem d_M_letter_57 : decode prog_4_method_22_code 57 = .ok (.invokevirtual 112, 3) := by decide +kernel
theorem d_M_letter_60 : decode prog_4_method_22_code 60 = .ok (.aload_n 0, 1) := by decide +kernel
theorem d_M_letter_61 : decode prog_4_method_22_code 61 = .ok (.bipush 40, 2) := by decide +kernel
theorem d_M_letter_63 : decode prog_4_method_22_code 63 = .ok (.invokevirtual 105, 3) := by decide +kernel
theorem d_M_letter_66 : decode prog_4_method_22_code 66 = .ok (.aload_n 0, 1) := by decide +kernel
theorem d_M_letter_67 : decode prog_4_method_22_code 67 = .ok (.aload_n 0, 1) := by decide +kernel
theorem d_M_letter_68 : decode prog_4_method_22_code 68 = .ok (.getfield 17, 3) := by decide +kernel
theorem d_M_letter_71 : decode prog_4_method_22_code 71 = .ok (.iload_n 2, 1) := by decide +kernel
theorem d_M_letter_72 : decode prog_4_method_22_code 72 = .ok (.iaload, 1) := by decide +kernel
theorem d_M_letter_73 : decode prog_4_method_22_code 73 = .ok (.invokevirtual 112, 3) := by decide +kernel
theorem d_M_letter_76 : decode prog_4_method_22_code 76 = .ok (.aload_n 0, 1) := by decide +kernel
theorem d_M_letter_77 : decode prog_4_method_22_code 77 = .ok (.bipush 44, 2) := by decide +kernel
theorem d_M_letter_79 : decode prog_4_method_22_code 79 = .ok (.invokevirtual 105, 3) := by decide +kernel
theorem d_M_letter_82 : decode prog_4_method_22_code 82 = .ok (.aload_n 0, 1) := by decide +kernel
theorem d_M_letter_83 : decode prog_4_method_22_code 83 = .ok (.aload_n 0, 1) := by decide +kernel
theorem d_M_letter_84 : decode prog_4_method_22_code 84 = .ok (.getfield 20, 3) := by decide +kernel
theorem d_M_letter_87 : decode prog_4_method_22_code 87 = .ok (.iload_n 2, 1) := by decide +kernel
theorem d_M_letter_88 : decode prog_4_method_22_code 88 = .ok (.iaload, 1) := by decide +kernel
theorem d_M_letter_89 : decode prog_4_method_22_code 89 = .ok (.invokevirtual 112, 3) := by decide +kernel
theorem d_M_letter_92 : decode prog_4_method_22_code 92 = .ok (.aload_n 0, 1) := by decide +kernel
theorem d_M_letter_93 : decode prog_4_method_22_code 93 = .ok (.bipush 41, 2) := by decide +kernel
theorem d_M_letter_95 : decode prog_4_method_22_code 95 = .ok (.invokevirtual 105, 3) := by decide +kernel
theorem d_M_letter_98 : decode prog_4_method_22_code 98 = .ok (.aload_n 0, 1) := by decide +kernel
theorem d_M_letter_99 : decode prog_4_method_22_code 99 = .ok (.getfield 23, 3) := by decide +kernel
theorem d_M_letter_102 : decode prog_4_method_22_code 102 = .ok (.iload_n 2, 1) := by decide +kernel
theorem d_M_letter_103 : decode prog_4_method_22_code 103 = .ok (.iaload, 1) := by decide +kernel
theorem d_M_letter_104 : decode prog_4_method_22_code 104 = .ok (.iconst (-1), 1) := by decide +kernel
theorem d_M_letter_105 : decode prog_4_method_22_code 105 = .ok (.if_icmp .eq 19, 3) := by decide +kernel
theorem d_M_letter_108 : decode prog_4_method_22_code 108 = .ok (.aload_n 0, 1) := by decide +kernel
theorem d_M_letter_109 : decode prog_4_method_22_code 109 = .ok (.bipush 60, 2) := by decide +kernel
theorem d_M_letter_111 : decode prog_4_method_22_code 111 = .ok (.invokevirtual 105, 3) := by decide +kernel
theorem d_M_letter_114 : decode prog_4_method_22_code 114 = .ok (.aload_n 0, 1) := by decide +kernel
theorem d_M_letter_115 : decode prog_4_method_22_code 115 = .ok (.aload_n 0, 1) := by decide +kernel
theorem d_M_letter_116 : decode prog_4_method_22_code 116 = .ok (.getfield 23, 3) := by decide +kernel
theorem d_M_letter_119 : decode prog_4_method_22_code 119 = .ok (.iload_n 2, 1) := by decide +kernel
theorem d_M_letter_120 : decode prog_4_method_22_code 120 = .ok (.iaload, 1) := by decide +kernel
theorem d_M_letter_121 : decode prog_4_method_22_code 121 = .ok (.invokevirtual 112, 3) := by decide +kernel
theorem d_M_letter_124 : decode prog_4_method_22_code 124 = .ok (.aload_n 0, 1) := by decide +kernel
theorem d_M_letter_125 : decode prog_4_method_22_code 125 = .ok (.bipush 59, 2) := by decide +kernel
theorem d_M_letter_127 : decode prog_4_method_22_code 127 = .ok (.invokevirtual 105, 3) := by decide +kernel
theorem d_M_letter_130 : decode prog_4_method_22_code 130 = .ok (.iinc 2 1, 3) := by decide +kernel
theorem d_M_letter_133 : decode prog_4_method_22_code 133 = .ok (.goto (-111), 3) := by decide +kernel
theorem d_M_letter_136 : decode prog_4_method_22_code 136 = .ok (.aload_n 0, 1) := by decide +kernel
theorem d_M_letter_137 : decode prog_4_method_22_code 137 = .ok (.getfield 102, 3) := by decide +kernel
theorem d_M_letter_140 : decode prog_4_method_22_code 140 = .ok (.ireturn, 1) := by decide +kernel
theorem d_M_letterOf_0 : decode prog_4_method_21_code 0 = .ok (.iload_n 0, 1) := by decide +kernel
theorem d_M_letterOf_1 : decode prog_4_method_21_code 1 = .ok (.tableswitch 64 0 6 #[43, 46, 49, 52, 55, 58, 61], 43) := by decide +kernel
theorem d_M_letterOf_44 : decode prog_4_method_21_code 44 = .ok (.bipush 70, 2) := by decide +kernel
theorem d_M_letterOf_46 : decode prog_4_method_21_code 46 = .ok (.ireturn, 1) := by decide +kernel
theorem d_M_letterOf_47 : decode prog_4_method_21_code 47 = .ok (.bipush 84, 2) := by decide +kernel
theorem d_M_letterOf_49 : decode prog_4_method_21_code 49 = .ok (.ireturn, 1) := by decide +kernel
theorem d_M_letterOf_50 : decode prog_4_method_21_code 50 = .ok (.bipush 80, 2) := by decide +kernel
theorem d_M_letterOf_52 : decode prog_4_method_21_code 52 = .ok (.ireturn, 1) := by decide +kernel
theorem d_M_letterOf_53 : decode prog_4_method_21_code 53 = .ok (.bipush 82, 2) := by decide +kernel
theorem d_M_letterOf_55 : decode prog_4_method_21_code 55 = .ok (.ireturn, 1) := by decide +kernel
theorem d_M_letterOf_56 : decode prog_4_method_21_code 56 = .ok (.bipush 83, 2) := by decide +kernel
theorem d_M_letterOf_58 : decode prog_4_method_21_code 58 = .ok (.ireturn, 1) := by decide +kernel
theorem d_M_letterOf_59 : decode prog_4_method_21_code 59 = .ok (.bipush 67, 2) := by decide +kernel
theorem d_M_letterOf_61 : decode prog_4_method_21_code 61 = .ok (.ireturn, 1) := by decide +kernel
theorem d_M_letterOf_62 : decode prog_4_method_21_code 62 = .ok (.bipush 76, 2) := by decide +kernel
theorem d_M_letterOf_64 : decode prog_4_method_21_code 64 = .ok (.ireturn, 1) := by decide +kernel
theorem d_M_letterOf_65 : decode prog_4_method_21_code 65 = .ok (.bipush 86, 2) := by decide +kernel
theorem d_M_letterOf_67 : decode prog_4_method_21_code 67 = .ok (.ireturn, 1) := by decide +kernel
theorem d_M_say_0 : decode prog_4_method_19_code 0 = .ok (.aload_n 0, 1) := by decide +kernel
theorem d_M_say_1 : decode prog_4_method_19_code 1 = .ok (.getfield 96, 3) := by decide +kernel
theorem d_M_say_4 : decode prog_4_method_19_code 4 = .ok (.aload_n 0, 1) := by decide +kernel
theorem d_M_say_5 : decode prog_4_method_19_code 5 = .ok (.getfield 99, 3) := by decide +kernel
theorem d_M_say_8 : decode prog_4_method_19_code 8 = .ok (.if_icmp .ne 8, 3) := by decide +kernel
theorem d_M_say_11 : decode prog_4_method_19_code 11 = .ok (.aload_n 0, 1) := by decide +kernel
theorem d_M_say_12 : decode prog_4_method_19_code 12 = .ok (.iload_n 1, 1) := by decide +kernel
theorem d_M_say_13 : decode prog_4_method_19_code 13 = .ok (.putfield 102, 3) := by decide +kernel
theorem d_M_say_16 : decode prog_4_method_19_code 16 = .ok (.aload_n 0, 1) := by decide +kernel
theorem d_M_say_17 : decode prog_4_method_19_code 17 = .ok (.dup, 1) := by decide +kernel
theorem d_M_say_18 : decode prog_4_method_19_code 18 = .ok (.getfield 96, 3) := by decide +kernel
theorem d_M_say_21 : decode prog_4_method_19_code 21 = .ok (.iconst 1, 1) := by decide +kernel
theorem d_M_say_22 : decode prog_4_method_19_code 22 = .ok (.iadd, 1) := by decide +kernel
theorem d_M_say_23 : decode prog_4_method_19_code 23 = .ok (.putfield 96, 3) := by decide +kernel
theorem d_M_say_26 : decode prog_4_method_19_code 26 = .ok (.return_, 1) := by decide +kernel
theorem d_M_sayNumber_0 : decode prog_4_method_20_code 0 = .ok (.iconst 1, 1) := by decide +kernel
theorem d_M_sayNumber_1 : decode prog_4_method_20_code 1 = .ok (.istore_n 2, 1) := by decide +kernel
theorem d_M_sayNumber_2 : decode prog_4_method_20_code 2 = .ok (.iload_n 1, 1) := by decide +kernel
theorem d_M_sayNumber_3 : decode prog_4_method_20_code 3 = .ok (.iload_n 2, 1) := by decide +kernel
theorem d_M_sayNumber_4 : decode prog_4_method_20_code 4 = .ok (.idiv, 1) := by decide +kernel
theorem d_M_sayNumber_5 : decode prog_4_method_20_code 5 = .ok (.bipush 9, 2) := by decide +kernel
theorem d_M_sayNumber_7 : decode prog_4_method_20_code 7 = .ok (.if_icmp .le 11, 3) := by decide +kernel
theorem d_M_sayNumber_10 : decode prog_4_method_20_code 10 = .ok (.iload_n 2, 1) := by decide +kernel
theorem d_M_sayNumber_11 : decode prog_4_method_20_code 11 = .ok (.bipush 10, 2) := by decide +kernel
theorem d_M_sayNumber_13 : decode prog_4_method_20_code 13 = .ok (.imul, 1) := by decide +kernel
theorem d_M_sayNumber_14 : decode prog_4_method_20_code 14 = .ok (.istore_n 2, 1) := by decide +kernel
theorem d_M_sayNumber_15 : decode prog_4_method_20_code 15 = .ok (.goto (-13), 3) := by decide +kernel
theorem d_M_sayNumber_18 : decode prog_4_method_20_code 18 = .ok (.iload_n 2, 1) := by decide +kernel
theorem d_M_sayNumber_19 : decode prog_4_method_20_code 19 = .ok (.ifCond .le 24, 3) := by decide +kernel
theorem d_M_sayNumber_22 : decode prog_4_method_20_code 22 = .ok (.aload_n 0, 1) := by decide +kernel
theorem d_M_sayNumber_23 : decode prog_4_method_20_code 23 = .ok (.bipush 48, 2) := by decide +kernel
theorem d_M_sayNumber_25 : decode prog_4_method_20_code 25 = .ok (.iload_n 1, 1) := by decide +kernel
theorem d_M_sayNumber_26 : decode prog_4_method_20_code 26 = .ok (.iload_n 2, 1) := by decide +kernel
theorem d_M_sayNumber_27 : decode prog_4_method_20_code 27 = .ok (.idiv, 1) := by decide +kernel
theorem d_M_sayNumber_28 : decode prog_4_method_20_code 28 = .ok (.bipush 10, 2) := by decide +kernel
theorem d_M_sayNumber_30 : decode prog_4_method_20_code 30 = .ok (.irem, 1) := by decide +kernel
theorem d_M_sayNumber_31 : decode prog_4_method_20_code 31 = .ok (.iadd, 1) := by decide +kernel
theorem d_M_sayNumber_32 : decode prog_4_method_20_code 32 = .ok (.invokevirtual 105, 3) := by decide +kernel
theorem d_M_sayNumber_35 : decode prog_4_method_20_code 35 = .ok (.iload_n 2, 1) := by decide +kernel
theorem d_M_sayNumber_36 : decode prog_4_method_20_code 36 = .ok (.bipush 10, 2) := by decide +kernel
theorem d_M_sayNumber_38 : decode prog_4_method_20_code 38 = .ok (.idiv, 1) := by decide +kernel
theorem d_M_sayNumber_39 : decode prog_4_method_20_code 39 = .ok (.istore_n 2, 1) := by decide +kernel
theorem d_M_sayNumber_40 : decode prog_4_method_20_code 40 = .ok (.goto (-22), 3) := by decide +kernel
theorem d_M_sayNumber_43 : decode prog_4_method_20_code 43 = .ok (.return_, 1) := by decide +kernel
end
section
theorem d_L_cell_0 : decode method_2_code 0 = .ok (.iload_n 1, 1) := by decide +kernel
theorem d_L_cell_1 : decode method_2_code 1 = .ok (.aload_n 0, 1) := by decide +kernel
theorem d_L_cell_2 : decode method_2_code 2 = .ok (.arraylength, 1) := by decide +kernel
theorem d_L_cell_3 : decode method_2_code 3 = .ok (.if_icmp .ge 9, 3) := by decide +kernel
theorem d_L_cell_6 : decode method_2_code 6 = .ok (.aload_n 0, 1) := by decide +kernel
theorem d_L_cell_7 : decode method_2_code 7 = .ok (.iload_n 1, 1) := by decide +kernel
theorem d_L_cell_8 : decode method_2_code 8 = .ok (.iaload, 1) := by decide +kernel
theorem d_L_cell_9 : decode method_2_code 9 = .ok (.goto 4, 3) := by decide +kernel
theorem d_L_cell_12 : decode method_2_code 12 = .ok (.iconst 0, 1) := by decide +kernel
theorem d_L_cell_13 : decode method_2_code 13 = .ok (.ireturn, 1) := by decide +kernel
theorem d_L_law_0 : decode code 0 = .ok (.new 7, 3) := by decide +kernel
theorem d_L_law_3 : decode code 3 = .ok (.dup, 1) := by decide +kernel
theorem d_L_law_4 : decode code 4 = .ok (.aload_n 0, 1) := by decide +kernel
theorem d_L_law_5 : decode code 5 = .ok (.iconst 0, 1) := by decide +kernel
theorem d_L_law_6 : decode code 6 = .ok (.invokestatic 9, 3) := by decide +kernel
theorem d_L_law_9 : decode code 9 = .ok (.i2l, 1) := by decide +kernel
theorem d_L_law_10 : decode code 10 = .ok (.invokespecial 15, 3) := by decide +kernel
theorem d_L_law_13 : decode code 13 = .ok (.astore_n 1, 1) := by decide +kernel
theorem d_L_law_14 : decode code 14 = .ok (.new 18, 3) := by decide +kernel
theorem d_L_law_17 : decode code 17 = .ok (.dup, 1) := by decide +kernel
theorem d_L_law_18 : decode code 18 = .ok (.aload_n 0, 1) := by decide +kernel
theorem d_L_law_19 : decode code 19 = .ok (.iconst 0, 1) := by decide +kernel
theorem d_L_law_20 : decode code 20 = .ok (.invokestatic 9, 3) := by decide +kernel
theorem d_L_law_23 : decode code 23 = .ok (.i2l, 1) := by decide +kernel
theorem d_L_law_24 : decode code 24 = .ok (.invokespecial 20, 3) := by decide +kernel
theorem d_L_law_27 : decode code 27 = .ok (.astore_n 2, 1) := by decide +kernel
theorem d_L_law_28 : decode code 28 = .ok (.iconst 1, 1) := by decide +kernel
theorem d_L_law_29 : decode code 29 = .ok (.istore_n 3, 1) := by decide +kernel
theorem d_L_law_30 : decode code 30 = .ok (.iload_n 3, 1) := by decide +kernel
theorem d_L_law_31 : decode code 31 = .ok (.aload_n 0, 1) := by decide +kernel
theorem d_L_law_32 : decode code 32 = .ok (.arraylength, 1) := by decide +kernel
theorem d_L_law_33 : decode code 33 = .ok (.iconst 5, 1) := by decide +kernel
theorem d_L_law_34 : decode code 34 = .ok (.isub, 1) := by decide +kernel
theorem d_L_law_35 : decode code 35 = .ok (.if_icmp .gt 322, 3) := by decide +kernel
theorem d_L_law_38 : decode code 38 = .ok (.aload_n 0, 1) := by decide +kernel
theorem d_L_law_39 : decode code 39 = .ok (.iload_n 3, 1) := by decide +kernel
theorem d_L_law_40 : decode code 40 = .ok (.iaload, 1) := by decide +kernel
theorem d_L_law_41 : decode code 41 = .ok (.bipush 7, 2) := by decide +kernel
theorem d_L_law_43 : decode code 43 = .ok (.iand, 1) := by decide +kernel
theorem d_L_law_44 : decode code 44 = .ok (.tableswitch 307 0 7 #[48, 81, 115, 138, 185, 198, 221, 234], 48) := by decide +kernel
theorem d_L_law_92 : decode code 92 = .ok (.aload_n 1, 1) := by decide +kernel
theorem d_L_law_93 : decode code 93 = .ok (.aload_n 0, 1) := by decide +kernel
theorem d_L_law_94 : decode code 94 = .ok (.iload_n 3, 1) := by decide +kernel
theorem d_L_law_95 : decode code 95 = .ok (.iconst 1, 1) := by decide +kernel
theorem d_L_law_96 : decode code 96 = .ok (.iadd, 1) := by decide +kernel
theorem d_L_law_97 : decode code 97 = .ok (.iaload, 1) := by decide +kernel
theorem d_L_law_98 : decode code 98 = .ok (.aload_n 0, 1) := by decide +kernel
theorem d_L_law_99 : decode code 99 = .ok (.iload_n 3, 1) := by decide +kernel
theorem d_L_law_100 : decode code 100 = .ok (.iconst 2, 1) := by decide +kernel
theorem d_L_law_101 : decode code 101 = .ok (.iadd, 1) := by decide +kernel
theorem d_L_law_102 : decode code 102 = .ok (.iaload, 1) := by decide +kernel
theorem d_L_law_103 : decode code 103 = .ok (.invokevirtual 21, 3) := by decide +kernel
theorem d_L_law_106 : decode code 106 = .ok (.aload_n 2, 1) := by decide +kernel
theorem d_L_law_107 : decode code 107 = .ok (.aload_n 0, 1) := by decide +kernel
theorem d_L_law_108 : decode code 108 = .ok (.iload_n 3, 1) := by decide +kernel
theorem d_L_law_109 : decode code 109 = .ok (.iconst 1, 1) := by decide +kernel
theorem d_L_law_110 : decode code 110 = .ok (.iadd, 1) := by decide +kernel
theorem d_L_law_111 : decode code 111 = .ok (.iaload, 1) := by decide +kernel
theorem d_L_law_112 : decode code 112 = .ok (.aload_n 0, 1) := by decide +kernel
theorem d_L_law_113 : decode code 113 = .ok (.iload_n 3, 1) := by decide +kernel
theorem d_L_law_114 : decode code 114 = .ok (.iconst 2, 1) := by decide +kernel
theorem d_L_law_115 : decode code 115 = .ok (.iadd, 1) := by decide +kernel
theorem d_L_law_116 : decode code 116 = .ok (.iaload, 1) := by decide +kernel
theorem d_L_law_117 : decode code 117 = .ok (.invokevirtual 25, 3) := by decide +kernel
theorem d_L_law_120 : decode code 120 = .ok (.if_icmp .eq 231, 3) := by decide +kernel
theorem d_L_law_123 : decode code 123 = .ok (.iconst 0, 1) := by decide +kernel
theorem d_L_law_124 : decode code 124 = .ok (.ireturn, 1) := by decide +kernel
theorem d_L_law_125 : decode code 125 = .ok (.aload_n 1, 1) := by decide +kernel
theorem d_L_law_126 : decode code 126 = .ok (.aload_n 0, 1) := by decide +kernel
theorem d_L_law_127 : decode code 127 = .ok (.iload_n 3, 1) := by decide +kernel
theorem d_L_law_128 : decode code 128 = .ok (.iconst 1, 1) := by decide +kernel
theorem d_L_law_129 : decode code 129 = .ok (.iadd, 1) := by decide +kernel
theorem d_L_law_130 : decode code 130 = .ok (.iaload, 1) := by decide +kernel
theorem d_L_law_131 : decode code 131 = .ok (.aload_n 0, 1) := by decide +kernel
theorem d_L_law_132 : decode code 132 = .ok (.iload_n 3, 1) := by decide +kernel
theorem d_L_law_133 : decode code 133 = .ok (.iconst 2, 1) := by decide +kernel
theorem d_L_law_134 : decode code 134 = .ok (.iadd, 1) := by decide +kernel
theorem d_L_law_135 : decode code 135 = .ok (.iaload, 1) := by decide +kernel
theorem d_L_law_136 : decode code 136 = .ok (.invokevirtual 26, 3) := by decide +kernel
theorem d_L_law_139 : decode code 139 = .ok (.aload_n 2, 1) := by decide +kernel
theorem d_L_law_140 : decode code 140 = .ok (.aload_n 0, 1) := by decide +kernel
theorem d_L_law_141 : decode code 141 = .ok (.iload_n 3, 1) := by decide +kernel
theorem d_L_law_142 : decode code 142 = .ok (.iconst 1, 1) := by decide +kernel
theorem d_L_law_143 : decode code 143 = .ok (.iadd, 1) := by decide +kernel
theorem d_L_law_144 : decode code 144 = .ok (.iaload, 1) := by decide +kernel
theorem d_L_law_145 : decode code 145 = .ok (.aload_n 0, 1) := by decide +kernel
theorem d_L_law_146 : decode code 146 = .ok (.iload_n 3, 1) := by decide +kernel
theorem d_L_law_147 : decode code 147 = .ok (.iconst 2, 1) := by decide +kernel
theorem d_L_law_148 : decode code 148 = .ok (.iadd, 1) := by decide +kernel
theorem d_L_law_149 : decode code 149 = .ok (.iaload, 1) := by decide +kernel
theorem d_L_law_150 : decode code 150 = .ok (.invokevirtual 30, 3) := by decide +kernel
theorem d_L_law_153 : decode code 153 = .ok (.lcmp, 1) := by decide +kernel
theorem d_L_law_154 : decode code 154 = .ok (.ifCond .eq 197, 3) := by decide +kernel
theorem d_L_law_157 : decode code 157 = .ok (.iconst 0, 1) := by decide +kernel
theorem d_L_law_158 : decode code 158 = .ok (.ireturn, 1) := by decide +kernel
theorem d_L_law_159 : decode code 159 = .ok (.aload_n 1, 1) := by decide +kernel
theorem d_L_law_160 : decode code 160 = .ok (.aload_n 0, 1) := by decide +kernel
theorem d_L_law_161 : decode code 161 = .ok (.iload_n 3, 1) := by decide +kernel
theorem d_L_law_162 : decode code 162 = .ok (.iconst 1, 1) := by decide +kernel
theorem d_L_law_163 : decode code 163 = .ok (.iadd, 1) := by decide +kernel
theorem d_L_law_164 : decode code 164 = .ok (.iaload, 1) := by decide +kernel
theorem d_L_law_165 : decode code 165 = .ok (.invokevirtual 31, 3) := by decide +kernel
theorem d_L_law_168 : decode code 168 = .ok (.aload_n 2, 1) := by decide +kernel
theorem d_L_law_169 : decode code 169 = .ok (.aload_n 0, 1) := by decide +kernel
theorem d_L_law_170 : decode code 170 = .ok (.iload_n 3, 1) := by decide +kernel
theorem d_L_law_171 : decode code 171 = .ok (.iconst 1, 1) := by decide +kernel
theorem d_L_law_172 : decode code 172 = .ok (.iadd, 1) := by decide +kernel
theorem d_L_law_173 : decode code 173 = .ok (.iaload, 1) := by decide +kernel
theorem d_L_law_174 : decode code 174 = .ok (.invokevirtual 35, 3) := by decide +kernel
theorem d_L_law_177 : decode code 177 = .ok (.if_icmp .eq 174, 3) := by decide +kernel
theorem d_L_law_180 : decode code 180 = .ok (.iconst 0, 1) := by decide +kernel
theorem d_L_law_181 : decode code 181 = .ok (.ireturn, 1) := by decide +kernel
theorem d_L_law_182 : decode code 182 = .ok (.aload_n 1, 1) := by decide +kernel
theorem d_L_law_183 : decode code 183 = .ok (.aload_n 0, 1) := by decide +kernel
theorem d_L_law_184 : decode code 184 = .ok (.iload_n 3, 1) := by decide +kernel
theorem d_L_law_185 : decode code 185 = .ok (.iconst 1, 1) := by decide +kernel
theorem d_L_law_186 : decode code 186 = .ok (.iadd, 1) := by decide +kernel
theorem d_L_law_187 : decode code 187 = .ok (.iaload, 1) := by decide +kernel
theorem d_L_law_188 : decode code 188 = .ok (.aload_n 0, 1) := by decide +kernel
theorem d_L_law_189 : decode code 189 = .ok (.iload_n 3, 1) := by decide +kernel
theorem d_L_law_190 : decode code 190 = .ok (.iconst 2, 1) := by decide +kernel
theorem d_L_law_191 : decode code 191 = .ok (.iadd, 1) := by decide +kernel
theorem d_L_law_192 : decode code 192 = .ok (.iaload, 1) := by decide +kernel
theorem d_L_law_193 : decode code 193 = .ok (.ifCond .eq 7, 3) := by decide +kernel
theorem d_L_law_196 : decode code 196 = .ok (.iconst 1, 1) := by decide +kernel
theorem d_L_law_197 : decode code 197 = .ok (.goto 4, 3) := by decide +kernel
theorem d_L_law_200 : decode code 200 = .ok (.iconst 0, 1) := by decide +kernel
theorem d_L_law_201 : decode code 201 = .ok (.invokevirtual 36, 3) := by decide +kernel
theorem d_L_law_204 : decode code 204 = .ok (.aload_n 2, 1) := by decide +kernel
theorem d_L_law_205 : decode code 205 = .ok (.aload_n 0, 1) := by decide +kernel
theorem d_L_law_206 : decode code 206 = .ok (.iload_n 3, 1) := by decide +kernel
theorem d_L_law_207 : decode code 207 = .ok (.iconst 1, 1) := by decide +kernel
theorem d_L_law_208 : decode code 208 = .ok (.iadd, 1) := by decide +kernel
theorem d_L_law_209 : decode code 209 = .ok (.iaload, 1) := by decide +kernel
theorem d_L_law_210 : decode code 210 = .ok (.aload_n 0, 1) := by decide +kernel
theorem d_L_law_211 : decode code 211 = .ok (.iload_n 3, 1) := by decide +kernel
theorem d_L_law_212 : decode code 212 = .ok (.iconst 2, 1) := by decide +kernel
theorem d_L_law_213 : decode code 213 = .ok (.iadd, 1) := by decide +kernel
theorem d_L_law_214 : decode code 214 = .ok (.iaload, 1) := by decide +kernel
theorem d_L_law_215 : decode code 215 = .ok (.ifCond .eq 7, 3) := by decide +kernel
theorem d_L_law_218 : decode code 218 = .ok (.iconst 1, 1) := by decide +kernel
theorem d_L_law_219 : decode code 219 = .ok (.goto 4, 3) := by decide +kernel
theorem d_L_law_222 : decode code 222 = .ok (.iconst 0, 1) := by decide +kernel
theorem d_L_law_223 : decode code 223 = .ok (.invokevirtual 40, 3) := by decide +kernel
theorem d_L_law_226 : decode code 226 = .ok (.goto 125, 3) := by decide +kernel
theorem d_L_law_229 : decode code 229 = .ok (.aload_n 1, 1) := by decide +kernel
theorem d_L_law_230 : decode code 230 = .ok (.invokevirtual 41, 3) := by decide +kernel
theorem d_L_law_233 : decode code 233 = .ok (.aload_n 2, 1) := by decide +kernel
theorem d_L_law_234 : decode code 234 = .ok (.invokevirtual 45, 3) := by decide +kernel
theorem d_L_law_237 : decode code 237 = .ok (.if_icmp .eq 114, 3) := by decide +kernel
theorem d_L_law_240 : decode code 240 = .ok (.iconst 0, 1) := by decide +kernel
theorem d_L_law_241 : decode code 241 = .ok (.ireturn, 1) := by decide +kernel
theorem d_L_law_242 : decode code 242 = .ok (.aload_n 1, 1) := by decide +kernel
theorem d_L_law_243 : decode code 243 = .ok (.aload_n 0, 1) := by decide +kernel
theorem d_L_law_244 : decode code 244 = .ok (.iload_n 3, 1) := by decide +kernel
theorem d_L_law_245 : decode code 245 = .ok (.iconst 1, 1) := by decide +kernel
theorem d_L_law_246 : decode code 246 = .ok (.iadd, 1) := by decide +kernel
theorem d_L_law_247 : decode code 247 = .ok (.iaload, 1) := by decide +kernel
theorem d_L_law_248 : decode code 248 = .ok (.invokevirtual 46, 3) := by decide +kernel
theorem d_L_law_251 : decode code 251 = .ok (.aload_n 2, 1) := by decide +kernel
theorem d_L_law_252 : decode code 252 = .ok (.aload_n 0, 1) := by decide +kernel
theorem d_L_law_253 : decode code 253 = .ok (.iload_n 3, 1) := by decide +kernel
theorem d_L_law_254 : decode code 254 = .ok (.iconst 1, 1) := by decide +kernel
theorem d_L_law_255 : decode code 255 = .ok (.iadd, 1) := by decide +kernel
theorem d_L_law_256 : decode code 256 = .ok (.iaload, 1) := by decide +kernel
theorem d_L_law_257 : decode code 257 = .ok (.invokevirtual 49, 3) := by decide +kernel
theorem d_L_law_260 : decode code 260 = .ok (.if_icmp .eq 91, 3) := by decide +kernel
theorem d_L_law_263 : decode code 263 = .ok (.iconst 0, 1) := by decide +kernel
theorem d_L_law_264 : decode code 264 = .ok (.ireturn, 1) := by decide +kernel
theorem d_L_law_265 : decode code 265 = .ok (.aload_n 1, 1) := by decide +kernel
theorem d_L_law_266 : decode code 266 = .ok (.invokevirtual 50, 3) := by decide +kernel
theorem d_L_law_269 : decode code 269 = .ok (.aload_n 2, 1) := by decide +kernel
theorem d_L_law_270 : decode code 270 = .ok (.invokevirtual 54, 3) := by decide +kernel
theorem d_L_law_273 : decode code 273 = .ok (.if_icmp .eq 78, 3) := by decide +kernel
theorem d_L_law_276 : decode code 276 = .ok (.iconst 0, 1) := by decide +kernel
theorem d_L_law_277 : decode code 277 = .ok (.ireturn, 1) := by decide +kernel
theorem d_L_law_278 : decode code 278 = .ok (.aload_n 1, 1) := by decide +kernel
theorem d_L_law_279 : decode code 279 = .ok (.aload_n 0, 1) := by decide +kernel
theorem d_L_law_280 : decode code 280 = .ok (.iload_n 3, 1) := by decide +kernel
theorem d_L_law_281 : decode code 281 = .ok (.iconst 1, 1) := by decide +kernel
theorem d_L_law_282 : decode code 282 = .ok (.iadd, 1) := by decide +kernel
theorem d_L_law_283 : decode code 283 = .ok (.iaload, 1) := by decide +kernel
theorem d_L_law_284 : decode code 284 = .ok (.i2l, 1) := by decide +kernel
theorem d_L_law_285 : decode code 285 = .ok (.bipush 32, 2) := by decide +kernel
theorem d_L_law_287 : decode code 287 = .ok (.lshl, 1) := by decide +kernel
theorem d_L_law_288 : decode code 288 = .ok (.aload_n 0, 1) := by decide +kernel
theorem d_L_law_289 : decode code 289 = .ok (.iload_n 3, 1) := by decide +kernel
theorem d_L_law_290 : decode code 290 = .ok (.iconst 2, 1) := by decide +kernel
theorem d_L_law_291 : decode code 291 = .ok (.iadd, 1) := by decide +kernel
theorem d_L_law_292 : decode code 292 = .ok (.iaload, 1) := by decide +kernel
theorem d_L_law_293 : decode code 293 = .ok (.i2l, 1) := by decide +kernel
theorem d_L_law_294 : decode code 294 = .ok (.ldc2_w 55, 3) := by decide +kernel
theorem d_L_law_297 : decode code 297 = .ok (.land, 1) := by decide +kernel
theorem d_L_law_298 : decode code 298 = .ok (.lor, 1) := by decide +kernel
theorem d_L_law_299 : decode code 299 = .ok (.aload_n 0, 1) := by decide +kernel
theorem d_L_law_300 : decode code 300 = .ok (.iload_n 3, 1) := by decide +kernel
theorem d_L_law_301 : decode code 301 = .ok (.iconst 3, 1) := by decide +kernel
theorem d_L_law_302 : decode code 302 = .ok (.iadd, 1) := by decide +kernel
theorem d_L_law_303 : decode code 303 = .ok (.iaload, 1) := by decide +kernel
theorem d_L_law_304 : decode code 304 = .ok (.aload_n 0, 1) := by decide +kernel
theorem d_L_law_305 : decode code 305 = .ok (.iload_n 3, 1) := by decide +kernel
theorem d_L_law_306 : decode code 306 = .ok (.iconst 4, 1) := by decide +kernel
theorem d_L_law_307 : decode code 307 = .ok (.iadd, 1) := by decide +kernel
theorem d_L_law_308 : decode code 308 = .ok (.iaload, 1) := by decide +kernel
theorem d_L_law_309 : decode code 309 = .ok (.invokevirtual 57, 3) := by decide +kernel
theorem d_L_law_312 : decode code 312 = .ok (.aload_n 2, 1) := by decide +kernel
theorem d_L_law_313 : decode code 313 = .ok (.aload_n 0, 1) := by decide +kernel
theorem d_L_law_314 : decode code 314 = .ok (.iload_n 3, 1) := by decide +kernel
theorem d_L_law_315 : decode code 315 = .ok (.iconst 1, 1) := by decide +kernel
theorem d_L_law_316 : decode code 316 = .ok (.iadd, 1) := by decide +kernel
theorem d_L_law_317 : decode code 317 = .ok (.iaload, 1) := by decide +kernel
theorem d_L_law_318 : decode code 318 = .ok (.i2l, 1) := by decide +kernel
theorem d_L_law_319 : decode code 319 = .ok (.bipush 32, 2) := by decide +kernel
theorem d_L_law_321 : decode code 321 = .ok (.lshl, 1) := by decide +kernel
theorem d_L_law_322 : decode code 322 = .ok (.aload_n 0, 1) := by decide +kernel
theorem d_L_law_323 : decode code 323 = .ok (.iload_n 3, 1) := by decide +kernel
theorem d_L_law_324 : decode code 324 = .ok (.iconst 2, 1) := by decide +kernel
theorem d_L_law_325 : decode code 325 = .ok (.iadd, 1) := by decide +kernel
theorem d_L_law_326 : decode code 326 = .ok (.iaload, 1) := by decide +kernel
theorem d_L_law_327 : decode code 327 = .ok (.i2l, 1) := by decide +kernel
theorem d_L_law_328 : decode code 328 = .ok (.ldc2_w 55, 3) := by decide +kernel
theorem d_L_law_331 : decode code 331 = .ok (.land, 1) := by decide +kernel
theorem d_L_law_332 : decode code 332 = .ok (.lor, 1) := by decide +kernel
theorem d_L_law_333 : decode code 333 = .ok (.aload_n 0, 1) := by decide +kernel
theorem d_L_law_334 : decode code 334 = .ok (.iload_n 3, 1) := by decide +kernel
theorem d_L_law_335 : decode code 335 = .ok (.iconst 3, 1) := by decide +kernel
theorem d_L_law_336 : decode code 336 = .ok (.iadd, 1) := by decide +kernel
theorem d_L_law_337 : decode code 337 = .ok (.iaload, 1) := by decide +kernel
theorem d_L_law_338 : decode code 338 = .ok (.aload_n 0, 1) := by decide +kernel
theorem d_L_law_339 : decode code 339 = .ok (.iload_n 3, 1) := by decide +kernel
theorem d_L_law_340 : decode code 340 = .ok (.iconst 4, 1) := by decide +kernel
theorem d_L_law_341 : decode code 341 = .ok (.iadd, 1) := by decide +kernel
theorem d_L_law_342 : decode code 342 = .ok (.iaload, 1) := by decide +kernel
theorem d_L_law_343 : decode code 343 = .ok (.invokevirtual 61, 3) := by decide +kernel
theorem d_L_law_346 : decode code 346 = .ok (.if_icmp .eq 5, 3) := by decide +kernel
theorem d_L_law_349 : decode code 349 = .ok (.iconst 0, 1) := by decide +kernel
theorem d_L_law_350 : decode code 350 = .ok (.ireturn, 1) := by decide +kernel
theorem d_L_law_351 : decode code 351 = .ok (.iinc 3 5, 3) := by decide +kernel
theorem d_L_law_354 : decode code 354 = .ok (.goto (-324), 3) := by decide +kernel
theorem d_L_law_357 : decode code 357 = .ok (.iconst 1, 1) := by decide +kernel
theorem d_L_law_358 : decode code 358 = .ok (.ireturn, 1) := by decide +kernel
end
section
/-! the environment: what stands outside the worlds and is never written: the nest's words, the statics, the text of the letters -/
/-- the sort that a kind tells -/
def bd_sk (k : Nat) : Int32 := [0, 2, 1, 3, 4, 5, 6, 7].getD k 0
/-- the letters of the sorts -/
def bd_lt (k : Nat) : Int32 := [70, 84, 80, 82, 83, 67, 76, 86].getD k 0
def cx_isNest : Cond → Bool
  | .fieldLinkNest .. => true
  | .methodLinkNest .. => true
  | _ => false
def cx_nest : List Cond := [(Jvm.Cond.methodLinkNest "BuildDrawer" (11 : Nat) ({ cls := "BuildDrawer$Drawing", name := "<init>", desc := "()V" } : Jvm.MethodName) "BuildDrawer"),
  (Jvm.Cond.fieldLinkNest "BuildDrawer" (72 : Nat) "BuildDrawer$Drawing" "sort" "I" "BuildDrawer"),
  (Jvm.Cond.fieldLinkNest "BuildDrawer" (75 : Nat) "BuildDrawer$Drawing" "a" "I" "BuildDrawer"),
  (Jvm.Cond.fieldLinkNest "BuildDrawer" (78 : Nat) "BuildDrawer$Drawing" "b" "I" "BuildDrawer"),
  (Jvm.Cond.fieldLinkNest "BuildDrawer" (81 : Nat) "BuildDrawer$Drawing" "need" "I" "BuildDrawer"),
  (Jvm.Cond.fieldLinkNest "BuildDrawer" (84 : Nat) "BuildDrawer$Drawing" "mark" "I" "BuildDrawer"),
  (Jvm.Cond.methodLinkNest "BuildDrawer" (65 : Nat) ({ cls := "BuildDrawer$Drawing", name := "begin", desc := "(JII)V" } : Jvm.MethodName) "BuildDrawer"),
  (Jvm.Cond.fieldLinkNest "BuildDrawer$Drawing" (42 : Nat) "BuildDrawer" "SORT_OF_KIND" "[I" "BuildDrawer"),
  (Jvm.Cond.methodLinkNest "BuildDrawer" (69 : Nat) ({ cls := "BuildDrawer$Drawing", name := "next", desc := "()V" } : Jvm.MethodName) "BuildDrawer"),
  (Jvm.Cond.methodLinkNest "BuildDrawer" (126 : Nat) ({ cls := "BuildDrawer$Drawing", name := "isAtTheLikeOf", desc := "(LBuildDrawer$Drawing;)Z" } : Jvm.MethodName) "BuildDrawer")]
theorem cx_nest_all : cx_nest.all cx_isNest = true := by decide +kernel
theorem cx_isNest_tab {w : Cond} (h : cx_isNest w = true) : w.onTables = true := by cases w <;> first | rfl | (simp [cx_isNest] at h)
theorem cx_isNest_warm {w : Cond} (h : cx_isNest w = true) {s U : State} (hW : s.WarmedH U.vm) (hZ : va_Nw w s) : va_Nw w U := by
  cases w <;> first | exact va_Nw.warmF hW hZ | exact va_Nw.warmM hW hZ | (simp [cx_isNest] at h)
theorem kn_19 : (Jvm.Cond.methodLinkNest "BuildDrawer" (11 : Nat) ({ cls := "BuildDrawer$Drawing", name := "<init>", desc := "()V" } : Jvm.MethodName) "BuildDrawer") ∈ cx_nest := List.mem_of_getElem? (i := 0) (by rfl)
theorem kn_28 : (Jvm.Cond.fieldLinkNest "BuildDrawer" (72 : Nat) "BuildDrawer$Drawing" "sort" "I" "BuildDrawer") ∈ cx_nest := List.mem_of_getElem? (i := 1) (by rfl)
theorem kn_30 : (Jvm.Cond.fieldLinkNest "BuildDrawer" (75 : Nat) "BuildDrawer$Drawing" "a" "I" "BuildDrawer") ∈ cx_nest := List.mem_of_getElem? (i := 2) (by rfl)
theorem kn_32 : (Jvm.Cond.fieldLinkNest "BuildDrawer" (78 : Nat) "BuildDrawer$Drawing" "b" "I" "BuildDrawer") ∈ cx_nest := List.mem_of_getElem? (i := 3) (by rfl)
theorem kn_34 : (Jvm.Cond.fieldLinkNest "BuildDrawer" (81 : Nat) "BuildDrawer$Drawing" "need" "I" "BuildDrawer") ∈ cx_nest := List.mem_of_getElem? (i := 4) (by rfl)
theorem kn_36 : (Jvm.Cond.fieldLinkNest "BuildDrawer" (84 : Nat) "BuildDrawer$Drawing" "mark" "I" "BuildDrawer") ∈ cx_nest := List.mem_of_getElem? (i := 5) (by rfl)
theorem kn_109 : (Jvm.Cond.methodLinkNest "BuildDrawer" (65 : Nat) ({ cls := "BuildDrawer$Drawing", name := "begin", desc := "(JII)V" } : Jvm.MethodName) "BuildDrawer") ∈ cx_nest := List.mem_of_getElem? (i := 6) (by rfl)
theorem kn_114 : (Jvm.Cond.fieldLinkNest "BuildDrawer$Drawing" (42 : Nat) "BuildDrawer" "SORT_OF_KIND" "[I" "BuildDrawer") ∈ cx_nest := List.mem_of_getElem? (i := 7) (by rfl)
theorem kn_125 : (Jvm.Cond.methodLinkNest "BuildDrawer" (69 : Nat) ({ cls := "BuildDrawer$Drawing", name := "next", desc := "()V" } : Jvm.MethodName) "BuildDrawer") ∈ cx_nest := List.mem_of_getElem? (i := 8) (by rfl)
theorem kn_290 : (Jvm.Cond.methodLinkNest "BuildDrawer" (126 : Nat) ({ cls := "BuildDrawer$Drawing", name := "isAtTheLikeOf", desc := "(LBuildDrawer$Drawing;)Z" } : Jvm.MethodName) "BuildDrawer") ∈ cx_nest := List.mem_of_getElem? (i := 9) (by rfl)
abbrev cx_G : Type := Nat × Nat × Nat
def cx_E (G : cx_G) (A : Nat → Prop) (U : State) (H : Heap) : Prop :=
  (∀ w ∈ cx_nest, va_Nw w U) ∧ (va_Z "BuildDrawer" "SORT_OF_KIND" "[I" (.ref G.1) A U H ∧ va_T .int G.1 8 (fun j => .int (bd_sk j)) A U H) ∧ va_Z "java/lang/String" "COMPACT_STRINGS" "Z" (.int 1) A U H ∧
  (vk_R "BuildDrawer" 149 "FTPRSCLV" G.2.1 U ∧ va_O "java/lang/String" G.2.1 A U H ∧ va_OF "java/lang/String" "coder" "B" (.int 0) G.2.1 A U H ∧ va_OF "java/lang/String" "value" "[B" (.ref G.2.2) G.2.1 A U H ∧ va_T .byte G.2.2 8 (fun j => .int (bd_lt j)) A U H) ∧
  va_Zq "jdk/internal/util/Preconditions" "SIOOBE_FORMATTER" "Ljava/util/function/BiFunction;" A U H
theorem cx_E.calling {G : cx_G} {A : Nat → Prop} {U : State} {H : Heap} {g : JFrame} {mk : MethodId} {a : Array Value} (h : cx_E G A U H) : cx_E G A (U.calling g mk a) H := by
  obtain ⟨h1, ⟨h2, h3⟩, h4, ⟨h5, h6, h7, h8, h9⟩, h10⟩ := h
  have hv : U.vm.Alike (U.calling g mk a).vm := Vm.Alike.refl U.vm
  exact ⟨fun w hw => va_Nw.same (u := U) (U := U.calling g mk a) (cx_isNest_tab (List.all_eq_true.mp cx_nest_all w hw)) rfl (h1 w hw), ⟨va_Z.moved hv h2, va_T.moved hv h3⟩, va_Z.moved hv h4, ⟨vk_R.same rfl h5, va_O.moved hv h6, va_OF.moved hv h7, va_OF.moved hv h8, va_T.moved hv h9⟩, va_Zq.moved hv h10⟩
theorem cx_E.at {G : cx_G} {A B : Nat → Prop} {s U : State} {H H1 : Heap} (h : cx_E G A s H) (hW : s.WarmedH U.vm) (hq : ∀ a : Nat, a < H.size → ¬ A a → H1[a]? = H[a]?) (hAB : ∀ q, B q → A q) : cx_E G B U H1 := by
  obtain ⟨h1, ⟨h2, h3⟩, h4, ⟨h5, h6, h7, h8, h9⟩, h10⟩ := h
  have hv : s.vm.Alike U.vm := hW.alike
  exact ⟨fun w hw => cx_isNest_warm (List.all_eq_true.mp cx_nest_all w hw) hW (h1 w hw), ⟨((va_Z.moved hv h2).kept hq).narrow hAB, ((va_T.moved hv h3).kept hq).narrow hAB⟩, ((va_Z.moved hv h4).kept hq).narrow hAB, ⟨vk_R.warm hW h5, ((va_O.moved hv h6).kept hq).narrow hAB, ((va_OF.moved hv h7).kept hq).narrow hAB, ((va_OF.moved hv h8).kept hq).narrow hAB, ((va_T.moved hv h9).kept hq).narrow hAB⟩, ((va_Zq.moved hv h10).kept hq).narrow hAB⟩
/-- a nest word, where it is used -/
theorem cx_E.nw {G : cx_G} {A : Nat → Prop} {U : State} {H : Heap} (h : cx_E G A U H) {w : Cond} (hw : w ∈ cx_nest) {B : Array Value} : w.before B U = true := va_Nw.use (cx_isNest_tab (List.all_eq_true.mp cx_nest_all w hw)) (h.1 w hw)
/-! the callee's words -/
theorem cx_gI {y : MethodName} {b : ByteArray} {n : Nat} {r : Option FieldType} (h : Cond.code y b n r ∈ cw) : GoodIn cw (.code y b n r :: cw) := by
  intro w hw
  rcases List.mem_cons.mp hw with h2 | h2
  · rw [h2]; exact ⟨h, cw_good _ h⟩
  · exact ⟨h2, cw_good _ h2⟩
theorem cx_gV {own C : String} {idx : Nat} {y : MethodName} {b : ByteArray} {n : Nat} {r : Option FieldType} (h1 : Cond.methodLink own idx y ∈ cw) (h2 : Cond.instanceMethod y ∈ cw) (h3 : Cond.selects C y y ∈ cw) (h4 : Cond.initialized C ∈ cw) (h : Cond.code y b n r ∈ cw) : GoodIn cw (wsV own idx C y (.code y b n r :: cw)) := by
  intro w hw
  rcases List.mem_append.mp hw with h5 | h5
  · simp only [List.mem_cons, List.not_mem_nil, or_false] at h5
    rcases h5 with h5 | h5 | h5 | h5 <;> rw [h5]
    · exact ⟨h1, cw_good _ h1⟩
    · exact ⟨h2, cw_good _ h2⟩
    · exact ⟨h3, cw_good _ h3⟩
    · exact ⟨h4, cw_good _ h4⟩
  · exact cx_gI h w h5
theorem cx_gS {own : String} {idx : Nat} {y : MethodName} {b : ByteArray} {n : Nat} {r : Option FieldType} (h1 : Cond.methodLink own idx y ∈ cw) (h2 : Cond.static y ∈ cw) (h4 : Cond.initialized y.cls ∈ cw) (h : Cond.code y b n r ∈ cw) : GoodIn cw (va_wsS own idx y (.code y b n r :: cw)) := by
  intro w hw
  rcases List.mem_append.mp hw with h5 | h5
  · simp only [List.mem_cons, List.not_mem_nil, or_false] at h5
    rcases h5 with h5 | h5 | h5 <;> rw [h5]
    · exact ⟨h1, cw_good _ h1⟩
    · exact ⟨h2, cw_good _ h2⟩
    · exact ⟨h4, cw_good _ h4⟩
  · exact cx_gI h w h5
theorem cx_inc (n : Nat) : nI n + Int32.ofInt 1 = nI (n + 1) := nI_1 n
section CX
variable {p : Program} {l : Launch} {e : Env} {R : Room} {s : State} {m : MethodId} {args : Array Value} {below : List Frame} {meth : Method} {c : Code} {H : Heap} {locs : List Loc} {cells slots : Nat} {Q : State → Prop}
variable {cc : ByteArray} {pc : Nat} {ls : Array Slot} {rest : List Value} {D : va_G} {G : cx_G} {A : Nat → Prop}
/-- the top of the stack under another name -/
theorem cx_ti {x y : Int32} (h : x = y) (k : W p l e R s m args below meth c H locs cells slots Q (F0 m pc ls (.int y :: rest))) : W p l e R s m args below meth c H locs cells slots Q (F0 m pc ls (.int x :: rest)) := h ▸ k
theorem cx_tl {x y : Int64} (h : x = y) (k : W p l e R s m args below meth c H locs cells slots Q (F0 m pc ls (.long y :: rest))) : W p l e R s m args below meth c H locs cells slots Q (F0 m pc ls (.long x :: rest)) := h ▸ k
/-- a loop: an invariant over the heap and the locals, a measure that falls -/
theorem cx_loop {α : Type} (I : α → Heap → List Loc → Array Slot → Prop) (μ : α → Nat) {st : List Value}
    (hs : ∀ a H locs ls, I a H locs ls → (∀ a' H' locs' ls', I a' H' locs' ls' → μ a' < μ a → W p l e R s m args below meth c H' locs' cells slots Q (F0 m pc ls' st)) → W p l e R s m args below meth c H locs cells slots Q (F0 m pc ls st))
    (a : α) (h : I a H locs ls) : W p l e R s m args below meth c H locs cells slots Q (F0 m pc ls st) := by
  have main : ∀ (n : Nat) (a : α) (H : Heap) (locs : List Loc) (ls : Array Slot), μ a < n → I a H locs ls → W p l e R s m args below meth c H locs cells slots Q (F0 m pc ls st) := by
    intro n
    induction n with
    | zero => intro a H locs ls h; exact absurd h (Nat.not_lt_zero _)
    | succ n ih => intro a H locs ls hlt hI; exact hs a H locs ls hI (fun a' H' locs' ls' hI' hlt' => ih a' H' locs' ls' (by omega) hI')
  exact main (μ a + 1) a H locs ls (Nat.lt_succ_self _) h
/-- a method's start: the world, the tables, the environment -/
def cx_Pc (G : cx_G) (D : va_G) (tys : List (ClassId × FieldType)) (ws : va_W) (sz : Nat) (av : List Value) : Array Value → State → Prop :=
  va_Pc av (fun U => U.heap.size = sz ∧ va_P D vwCl ws U.heap ∧ va_K D vwCl tys U ∧ va_D (fun _ => True) ws ∧ cx_E G (va_A ws sz) U U.heap)
def cx_B (D : va_G) (tys : List (ClassId × FieldType)) (A : Nat → Prop) (ws : va_W) (t : State) : Prop := va_P D vwCl ws t.heap ∧ va_K D vwCl tys t ∧ va_D A ws
def cx_Qi (r0 : Int32) (D : va_G) (tys : List (ClassId × FieldType)) (w1 : va_W) (A : Nat → Prop) : Array Value → State → Outcome → State → Prop := va_Qi (S := Unit) (fun r _ => r = r0) (fun _ => cx_B D tys A w1) A
def cx_Ql (r0 : Int64) (D : va_G) (tys : List (ClassId × FieldType)) (w1 : va_W) (A : Nat → Prop) : Array Value → State → Outcome → State → Prop := va_Ql (S := Unit) (fun r _ => r = r0) (fun _ => cx_B D tys A w1) A
def cx_Qv (D : va_G) (tys : List (ClassId × FieldType)) (w1 : va_W) (A : Nat → Prop) : Array Value → State → Outcome → State → Prop := va_Qv (S := Unit) (fun _ => True) (fun _ => cx_B D tys A w1) A
theorem cx_blind {tys : List (ClassId × FieldType)} {ws : va_W} {sz : Nat} {av : List Value} : FrameBlind (cx_Pc G D tys ws sz av) := by
  intro a U g mk q
  obtain ⟨h0, h1, h2, h3, h4, h5⟩ := q
  exact ⟨h0, h1, h2, va_K.moved (u := U) (U := U.calling g mk a) (Vm.Alike.refl U.vm) h3, h4, cx_E.calling h5⟩
theorem cx_pre {tys : List (ClassId × FieldType)} {ws wc : va_W} {av : List Value} (hK : va_K D vwCl tys s) (hP : va_P D vwCl ws H) (hD : va_D A ws) (hS : va_S A s.heap H locs) (hA : ∀ q, s.heap.size ≤ q → A q) (hE : cx_E G A s s.heap) (isC : List Nat) (hC : isC.filterMap (fun i => ws[i]?) = wc) (hC2 : isC.map (fun i => ws[i]?) = wc.map some) (hn : va_nd isC = true) : PreS s H (cx_Pc G D tys wc H.size av) av := by
  refine ⟨cx_blind, fun U hU hW => ⟨rfl, by rw [hU], ?_, va_K.moved hW.alike hK, (hD.sub isC hn hC2).weaken (fun _ _ _ _ => trivial), ?_⟩⟩
  · rw [hU]; exact hP.sub isC hC
  · rw [hU]; exact cx_E.at hE hW hS.2.1 (va_free hD hS hA isC hC2)
theorem cx_preV {C : String} {T : u_T} {N ci b q0 : Nat} {fs As : List Value} {tys : List (ClassId × FieldType)} {ws wc : va_W} (hK : va_K D vwCl tys s) (hP : va_P D vwCl ws H) (hD : va_D A ws) (hS : va_S A s.heap H locs) (hA : ∀ q, s.heap.size ≤ q → A q) (hE : cx_E G A s s.heap) (hc : vwCl[ci]? = some (C, T, N)) (he : ws[q0]? = some (b, .inr (ci, fs))) (isC : List Nat) (hC : isC.filterMap (fun i => ws[i]?) = wc) (hC2 : isC.map (fun i => ws[i]?) = wc.map some) (hn : va_nd isC = true) : PreV s H C b (cx_Pc G D tys wc H.size (.ref b :: As)) As :=
  ⟨cx_blind, va_recv hK hP hc he, (cx_pre hK hP hD hS hA hE isC hC hC2 hn).2⟩
section CXC
variable {st0 : List Value} {a : Array Value} {mc ms : Nat} {tys : List (ClassId × FieldType)} {ws wc wr w1 wN : va_W}
theorem cx_perm {A : Nat → Prop} {ws wN : va_W} (hP : va_P D vwCl ws H) (hD : va_D A ws) (pm : List Nat) (h1 : pm.filterMap (fun i => ws[i]?) = wN) (h2 : pm.map (fun i => ws[i]?) = wN.map some) (hn : va_nd pm = true) : va_P D vwCl wN H ∧ va_D A wN := ⟨hP.sub pm h1, hD.sub pm hn h2⟩
theorem cx_ci {r0 : Int32} (hr : va_Run p l e R s m args below meth c H locs cells slots mc ms (F0 m pc ls st0) rest (cx_Qi r0 D tys w1 (va_A wc H.size) a) (va_A wc H.size)) (hP : va_P D vwCl ws H) (hD : va_D A ws) (hS : va_S A s.heap H locs) (hA : ∀ q, s.heap.size ≤ q → A q) (isC isR : List Nat) (hC : isC.map (fun i => ws[i]?) = wc.map some) (hR : isR.map (fun i => ws[i]?) = wr.map some) (hn : va_nd isR = true) (hdis : ∀ i ∈ isR, i ∉ isC) (pm : List Nat) (hp1 : pm.filterMap (fun i => (wr ++ w1)[i]?) = wN) (hp2 : pm.map (fun i => (wr ++ w1)[i]?) = wN.map some) (hpn : va_nd pm = true)
    (kk : ∀ (H1 : Heap) (locs1 : List Loc), va_P D vwCl wN H1 → va_D A wN → va_S A s.heap H1 locs1 → W p l e R s m args below meth c H1 locs1 (cells + mc) (slots + ms) Q (F0 m (pc + 3) ls (.int r0 :: rest))) : W p l e R s m args below meth c H locs cells slots Q (F0 m pc ls st0) := by
  have hF := va_free (wc := wc) hD hS hA isC hC
  refine va_calli hr hS (fun q _ h => hF q h) hF (fun r u t H1 locs1 ht hvm hw hB hz hk hS1 => ?_)
  obtain ⟨hP1, hK1, hD1⟩ := hB
  rw [ht] at hP1
  obtain ⟨hP2, hD2⟩ := va_join hP hD isC isR hC hR hn hdis hk hF hP1 hD1
  obtain ⟨hP3, hD3⟩ := cx_perm hP2 hD2 pm hp1 hp2 hpn
  rw [hw]
  exact kk H1 locs1 hP3 hD3 hS1
theorem cx_cl {r0 : Int64} (hr : va_Run p l e R s m args below meth c H locs cells slots mc ms (F0 m pc ls st0) rest (cx_Ql r0 D tys w1 (va_A wc H.size) a) (va_A wc H.size)) (hP : va_P D vwCl ws H) (hD : va_D A ws) (hS : va_S A s.heap H locs) (hA : ∀ q, s.heap.size ≤ q → A q) (isC isR : List Nat) (hC : isC.map (fun i => ws[i]?) = wc.map some) (hR : isR.map (fun i => ws[i]?) = wr.map some) (hn : va_nd isR = true) (hdis : ∀ i ∈ isR, i ∉ isC) (pm : List Nat) (hp1 : pm.filterMap (fun i => (wr ++ w1)[i]?) = wN) (hp2 : pm.map (fun i => (wr ++ w1)[i]?) = wN.map some) (hpn : va_nd pm = true)
    (kk : ∀ (H1 : Heap) (locs1 : List Loc), va_P D vwCl wN H1 → va_D A wN → va_S A s.heap H1 locs1 → W p l e R s m args below meth c H1 locs1 (cells + mc) (slots + ms) Q (F0 m (pc + 3) ls (.long r0 :: rest))) : W p l e R s m args below meth c H locs cells slots Q (F0 m pc ls st0) := by
  have hF := va_free (wc := wc) hD hS hA isC hC
  refine va_calll hr hS (fun q _ h => hF q h) hF (fun r u t H1 locs1 ht hvm hw hB hz hk hS1 => ?_)
  obtain ⟨hP1, hK1, hD1⟩ := hB
  rw [ht] at hP1
  obtain ⟨hP2, hD2⟩ := va_join hP hD isC isR hC hR hn hdis hk hF hP1 hD1
  obtain ⟨hP3, hD3⟩ := cx_perm hP2 hD2 pm hp1 hp2 hpn
  rw [hw]
  exact kk H1 locs1 hP3 hD3 hS1
theorem cx_cv (hr : va_Run p l e R s m args below meth c H locs cells slots mc ms (F0 m pc ls st0) rest (cx_Qv D tys w1 (va_A wc H.size) a) (va_A wc H.size)) (hP : va_P D vwCl ws H) (hD : va_D A ws) (hS : va_S A s.heap H locs) (hA : ∀ q, s.heap.size ≤ q → A q) (isC isR : List Nat) (hC : isC.map (fun i => ws[i]?) = wc.map some) (hR : isR.map (fun i => ws[i]?) = wr.map some) (hn : va_nd isR = true) (hdis : ∀ i ∈ isR, i ∉ isC) (pm : List Nat) (hp1 : pm.filterMap (fun i => (wr ++ w1)[i]?) = wN) (hp2 : pm.map (fun i => (wr ++ w1)[i]?) = wN.map some) (hpn : va_nd pm = true)
    (kk : ∀ (H1 : Heap) (locs1 : List Loc), va_P D vwCl wN H1 → va_D A wN → va_S A s.heap H1 locs1 → W p l e R s m args below meth c H1 locs1 (cells + mc) (slots + ms) Q (F0 m (pc + 3) ls rest)) : W p l e R s m args below meth c H locs cells slots Q (F0 m pc ls st0) := by
  have hF := va_free (wc := wc) hD hS hA isC hC
  refine va_callv hr hS (fun q _ h => hF q h) hF (fun u t H1 locs1 ht hvm hw hB hz hk hS1 => ?_)
  obtain ⟨hP1, hK1, hD1⟩ := hB
  rw [ht] at hP1
  obtain ⟨hP2, hD2⟩ := va_join hP hD isC isR hC hR hn hdis hk hF hP1 hD1
  obtain ⟨hP3, hD3⟩ := cx_perm hP2 hD2 pm hp1 hp2 hpn
  exact kk H1 locs1 hP3 hD3 hS1
end CXC
/-! the ends -/
theorem cx_iret {r r0 : Int32} {tys : List (ClassId × FieldType)} {w w1 : va_W} (hx : p.tables.exec = Jvm.exec) (hb : c.code = cc) (hr : meth.sig.returnType = some .int) (hlocks : meth.locks = false) (hK : va_K D vwCl tys s) (hP : va_P D vwCl w H) (hD : va_D A w) (hS : va_S A s.heap H locs) (hdg : decode cc pc = .ok (.ireturn, 1)) (he : r = r0) (hw : w = w1) : W p l e R s m args below meth c H locs cells slots (MQ below (cx_Qi r0 D tys w1 A) args s cells slots A) (F0 m pc ls [.int r]) := by
  subst hw
  exact W.iret hx hb hr (fun t ht hW => ⟨⟨r, (), rfl, he, by rw [ht]; exact hP, va_K.moved hW.alike hK, hD⟩, hS.F ht⟩) hS.2.2 hdg hlocks
theorem cx_zret {r r0 : Int32} {ty : FieldType} {tys : List (ClassId × FieldType)} {w w1 : va_W} (hx : p.tables.exec = Jvm.exec) (hb : c.code = cc) (hr : meth.sig.returnType = some ty) (hlocks : meth.locks = false) (hK : va_K D vwCl tys s) (hP : va_P D vwCl w H) (hD : va_D A w) (hS : va_S A s.heap H locs) (hdg : decode cc pc = .ok (.ireturn, 1)) (hn : narrow ty (.int r) = .int r) (he : r = r0) (hw : w = w1) : W p l e R s m args below meth c H locs cells slots (MQ below (cx_Qi r0 D tys w1 A) args s cells slots A) (F0 m pc ls [.int r]) := by
  subst hw
  exact W.zret hx hb hr hn (fun t ht hW => ⟨⟨r, (), rfl, he, by rw [ht]; exact hP, va_K.moved hW.alike hK, hD⟩, hS.F ht⟩) hS.2.2 hdg hlocks
theorem cx_lret {r r0 : Int64} {tys : List (ClassId × FieldType)} {w w1 : va_W} (hx : p.tables.exec = Jvm.exec) (hb : c.code = cc) (hr : meth.sig.returnType = some .long) (hlocks : meth.locks = false) (hK : va_K D vwCl tys s) (hP : va_P D vwCl w H) (hD : va_D A w) (hS : va_S A s.heap H locs) (hdg : decode cc pc = .ok (.lreturn, 1)) (he : r = r0) (hw : w = w1) : W p l e R s m args below meth c H locs cells slots (MQ below (cx_Ql r0 D tys w1 A) args s cells slots A) (F0 m pc ls [.long r]) := by
  subst hw
  exact W.lret hx hb hr (fun t ht hW => ⟨⟨r, (), rfl, he, by rw [ht]; exact hP, va_K.moved hW.alike hK, hD⟩, hS.F ht⟩) hS.2.2 hdg hlocks
theorem cx_vret {tys : List (ClassId × FieldType)} {w w1 : va_W} (hx : p.tables.exec = Jvm.exec) (hb : c.code = cc) (hr : meth.sig.returnType = none) (hlocks : meth.locks = false) (hK : va_K D vwCl tys s) (hP : va_P D vwCl w H) (hD : va_D A w) (hS : va_S A s.heap H locs) (hdg : decode cc pc = .ok (.return_, 1)) (hw : w = w1) : W p l e R s m args below meth c H locs cells slots (MQ below (cx_Qv D tys w1 A) args s cells slots A) (F0 m pc ls []) := by
  subst hw
  exact W.vret hx hb hr (fun t ht hW => ⟨⟨(), rfl, trivial, by rw [ht]; exact hP, va_K.moved hW.alike hK, hD⟩, hS.F ht⟩) hS.2.2 hdg hlocks
end CX
end
section
/-! the class's Drawing as pure functions -/
/-- the word behind a chance -/
def bd_w (w : Int64) : Int64 := w * 6364136223846793005 + 1442695040888963407
/-- its highest 31 bits -/
def bd_hi (w : Int64) : Int32 := (w.toUInt64 >>> ((33 : Int32).toInt64.toUInt64 &&& Int64.toUInt64 63)).toInt64.toInt32
/-- a chance below n, of the word w -/
def bd_c (w : Int64) (n : Int32) : Int32 := if 0 < n then bd_hi (bd_w w) - bd_hi (bd_w w) / n * n else 0
def bd_bit (n : Int32) : Int32 := if n < 8 then 1 <<< (n &&& 31) else 0
def bd_w0 (seed : Int64) (kind size : Int32) : Int64 := (seed ^^^ kind.toInt64) * 2862933555777941757 + size.toInt64
def bd_wb (seed : Int64) (kind size : Int32) : Int64 := if kind = 1 then bd_w (bd_w0 seed kind size) else bd_w0 seed kind size
def bd_pb (seed : Int64) (kind size : Int32) : Int32 := if kind = 1 then bd_bit (bd_c (bd_w0 seed kind size) 16) else 0
/-- a part's sort, its number nu, its kind's sort sk -/
def bd_so (sk nu : Int32) (w : Int64) : Int32 := if nu = 0 then 0 else if nu = 1 then 1 else if bd_c w 4 = 3 then 0 else sk
def bd_w1 (nu : Int32) (w : Int64) : Int64 := if nu = 0 then w else if nu = 1 then w else bd_w w
def bd_stp (w : Int64) : Int32 := if bd_c (bd_w w) 5 = 0 then bd_c w 12 + 100 else bd_c w 12
def bd_b (so pb : Int32) (w : Int64) : Int32 := if so = 0 then bd_c w 100 else if so = 1 then bd_c w 8 else if so = 2 then bd_c w 256 ||| pb else if so = 3 then bd_c w 10 else if so = 4 then bd_stp w else if so = 5 then bd_c w 5 else if so = 6 then bd_c w 7 else bd_c w 6
def bd_w3 (so : Int32) (w : Int64) : Int64 := if so = 4 then bd_w (bd_w w) else bd_w w
def bd_ne (nu : Int32) (w : Int64) : Int32 := if nu = 0 then -1 else if nu = 1 then 0 else if bd_c w (nu + 1) = nu then -1 else bd_c w (nu + 1)
def bd_w5 (nu : Int32) (w : Int64) : Int64 := if nu = 0 then w else if nu = 1 then w else bd_w w
/-! the parts of next(), of the word w that stood before it -/
def bd_nS (sk nu : Int32) (w : Int64) : Int32 := bd_so sk nu w
def bd_nA (nu : Int32) (w : Int64) : Int32 := bd_c (bd_w1 nu w) 1000
def bd_nB (sk pb nu : Int32) (w : Int64) : Int32 := bd_b (bd_so sk nu w) pb (bd_w (bd_w1 nu w))
def bd_v3 (sk nu : Int32) (w : Int64) : Int64 := bd_w3 (bd_so sk nu w) (bd_w (bd_w1 nu w))
def bd_nM (sk nu : Int32) (w : Int64) : Int32 := 1 <<< (bd_c (bd_v3 sk nu w) 8 &&& 31)
def bd_nN (sk nu : Int32) (w : Int64) : Int32 := bd_ne nu (bd_w (bd_v3 sk nu w))
def bd_nW (sk nu : Int32) (w : Int64) : Int64 := bd_w5 nu (bd_w (bd_v3 sk nu w))
abbrev cx_KT : Type := ClassId × ClassId × ClassId
abbrev cx_ty (K : cx_KT) : List (ClassId × FieldType) := [(K.1, .int), (K.2.1, .boolean), (K.2.2, .char)]
theorem cx_out7 {x : Int32} (h0 : ¬ x = 0) (h1 : ¬ x = 1) (h2 : ¬ x = 2) (h3 : ¬ x = 3) (h4 : ¬ x = 4) (h5 : ¬ x = 5) (h6 : ¬ x = 6) : x.toInt < 0 ∨ 6 < x.toInt := by
  have a0 := lv_neT (a := 0) h0 (by decide)
  have a1 := lv_neT (a := 1) h1 (by decide)
  have a2 := lv_neT (a := 2) h2 (by decide)
  have a3 := lv_neT (a := 3) h3 (by decide)
  have a4 := lv_neT (a := 4) h4 (by decide)
  have a5 := lv_neT (a := 5) h5 (by decide)
  have a6 := lv_neT (a := 6) h6 (by decide)
  omega
set_option maxHeartbeats 4000000 in
set_option maxRecDepth 100000 in
/-- chance(n) -/
theorem c_D_chance (l : Launch) (G : cx_G) (D : va_G) (K : cx_KT) (sz : Nat) (h0 : Nat) (w : Int64) (sk : Int32) (pb : Int32) (nu : Int32) (so : Int32) (fa : Int32) (fb : Int32) (ne : Int32) (mk : Int32) (n : Int32)  : Met l y_D_chance w_D_chance ({ frames := 0, cells := 0, slots := 0, locals := 0 }) (cx_Pc G D (cx_ty K) [(h0, .inr (0, [.long w, .int sk, .int pb, .int nu, .int so, .int fa, .int fb, .int ne, .int mk]))] sz [.ref h0, .int n]) (cx_Qi (bd_c w n) D (cx_ty K) [(h0, .inr (0, [.long (bd_w w), .int sk, .int pb, .int nu, .int so, .int fa, .int fb, .int ne, .int mk]))] (va_A [(h0, .inr (0, [.long w, .int sk, .int pb, .int nu, .int so, .int fa, .int fb, .int ne, .int mk]))] sz)) 0 0 (va_A [(h0, .inr (0, [.long w, .int sk, .int pb, .int nu, .int so, .int fa, .int fb, .int ne, .int mk]))] sz) := by
  refine Met.ofW (cc := prog_2_method_10_code) (maxL := 3) (ret := (some .int)) (by decide) rfl ?_
  intro p e s m args below meth c s₁ B hml hv
  obtain ⟨rfl, hsz, hP, hK, hD0, hE⟩ := hv
  have hx := B.exec
  have hb := B.bytes
  have hr := B.returns
  have hts := atoms_spec (ws := w_D_chance) B.pre
  have hw : ∀ w ∈ cw, w.before _ s = true := fun w h => hts w (List.mem_cons_of_mem _ h)
  have hown : s.vm.findClass "BuildDrawer$Drawing" = some m.cls := findClass_of_methodNamed B.named
  have hlocks := B.notSynchronized
  subst hsz
  have hD := hD0.self (sz := s.heap.size)
  generalize hAe : va_A [(h0, .inr (0, [.long w, .int sk, .int pb, .int nu, .int so, .int fa, .int fb, .int ne, .int mk]))] s.heap.size = A at hD hE ⊢
  have hA : ∀ q : Nat, s.heap.size ≤ q → A q := fun q h => by rw [← hAe]; exact Or.inr h
  have hS : va_S A s.heap s.heap [] := va_S.rf
  have hl := lv_entry ([.ref h0, .int n]) (n := 3) (Nat.le_of_ble_eq_true rfl)
  rw [lg_entry_eq]
  generalize (lg_sl ([.ref h0, .int n]) ++ List.replicate (3 - (lg_sl ([.ref h0, .int n])).length) Slot.unset).toArray = ls at hl ⊢
  have hl : lv_has ls 3 [(0, .ref h0), (1, .int n)] := hl
  refine lv_aload_n hx hb d_D_chance_0 rfl (lv_at hl 0 rfl) ?_
  refine lv_aload_n hx hb d_D_chance_1 rfl (lv_at hl 0 rfl) ?_
  refine va_get (D := D) (ci := 0) (v := .long w) (C := "BuildDrawer$Drawing") (T := TD) (N := 9) hx hb hw inD hown hK hP 0 rfl rfl 0 (by decide) (hw _ k_23) (fun _ h9 => h9) rfl d_D_chance_2 ?_
  refine lv_ldc2 (v := 6364136223846793005) hx hb hown (hw _ k_120) d_D_chance_5 ?_
  refine lv_lmul hx hb d_D_chance_8 ?_
  refine lv_ldc2 (v := 1442695040888963407) hx hb hown (hw _ k_121) d_D_chance_9 ?_
  refine lv_ladd hx hb d_D_chance_12 ?_
  refine cx_tl (y := bd_w w) (rfl) ?_
  refine va_put (D := D) (ci := 0) (v := .long (bd_w w)) (ty := .long) (C := "BuildDrawer$Drawing") (T := TD) (N := 9) hx hb hw inD tyD tyD_ok nmD hown hK hP hD hS 0 rfl rfl 0 (by decide) (hw _ k_23) (fun _ h9 => h9) rfl (by decide +kernel) rfl rfl (Nat.le_of_ble_eq_true rfl) d_D_chance_13 (fun H locs hP hD hS => ?_)
  have hP : va_P D vwCl [(h0, .inr (0, [.long (bd_w w), .int sk, .int pb, .int nu, .int so, .int fa, .int fb, .int ne, .int mk]))] H := hP
  have hD : va_D A [(h0, .inr (0, [.long (bd_w w), .int sk, .int pb, .int nu, .int so, .int fa, .int fb, .int ne, .int mk]))] := hD
  refine lv_aload_n hx hb d_D_chance_16 rfl (lv_at hl 0 rfl) ?_
  refine va_get (D := D) (ci := 0) (v := .long (bd_w w)) (C := "BuildDrawer$Drawing") (T := TD) (N := 9) hx hb hw inD hown hK hP 0 rfl rfl 0 (by decide) (hw _ k_23) (fun _ h9 => h9) rfl d_D_chance_17 ?_
  refine lv_bipush (v := 33) hx hb d_D_chance_20 (by decide) ?_
  refine lv_lushr (v := ((bd_w w).toUInt64 >>> ((33 : Int32).toInt64.toUInt64 &&& Int64.toUInt64 63)).toInt64) hx hb d_D_chance_22 (rfl) ?_
  refine lv_l2i (v := bd_hi (bd_w w)) hx hb d_D_chance_23 (rfl) ?_
  refine lv_istore_n (lv' := [(2, .int (bd_hi (bd_w w))), (0, .ref h0), (1, .int n)]) hx hb d_D_chance_24 rfl hl (by decide) rfl (fun ls hl => ?_)
  refine lv_iload_n hx hb d_D_chance_25 rfl (lv_at hl 2 rfl) ?_
  refine lv_if_le (tgt := 35) hx hb d_D_chance_26 (by decide) (fun r_26 => ?_) (fun r_26 => ?_)
  · have c_26 := r_26
    refine lv_iconst (v := 0) hx hb d_D_chance_35 (by decide) ?_
    exact cx_iret hx hb hr hlocks hK hP hD hS d_D_chance_36 (by rw [bd_c, if_neg (Int32.not_lt.mpr c_26)]) (rfl)
  · have c_26 := r_26
    refine lv_iload_n hx hb d_D_chance_29 rfl (lv_at hl 0 rfl) ?_
    refine lv_iload_n hx hb d_D_chance_30 rfl (lv_at hl 2 rfl) ?_
    refine lv_irem hx hb d_D_chance_31 (fun h => c_26 (by rw [h]; exact Int32.le_refl _)) ?_
    refine lv_goto (tgt := 36) hx hb d_D_chance_32 (by decide) ?_
    exact cx_iret hx hb hr hlocks hK hP hD hS d_D_chance_36 (by rw [bd_c, if_pos (Int32.not_le.mp c_26)]) (rfl)
set_option maxHeartbeats 4000000 in
set_option maxRecDepth 100000 in
/-- bitOrNone(n) -/
theorem c_D_bitOrNone (l : Launch) (G : cx_G) (D : va_G) (K : cx_KT) (sz : Nat) (n : Int32)  : Met l y_D_bitOrNone w_D_bitOrNone ({ frames := 0, cells := 0, slots := 0, locals := 0 }) (cx_Pc G D (cx_ty K) [] sz [.int n]) (cx_Qi (bd_bit n) D (cx_ty K) [] (va_A [] sz)) 0 0 (va_A [] sz) := by
  refine Met.ofW (cc := prog_2_method_5_code) (maxL := 1) (ret := (some .int)) (by decide) rfl ?_
  intro p e s m args below meth c s₁ B hml hv
  obtain ⟨rfl, hsz, hP, hK, hD0, hE⟩ := hv
  have hx := B.exec
  have hb := B.bytes
  have hr := B.returns
  have hts := atoms_spec (ws := w_D_bitOrNone) B.pre
  have hw : ∀ w ∈ cw, w.before _ s = true := fun w h => hts w (List.mem_cons_of_mem _ h)
  have hown : s.vm.findClass "BuildDrawer$Drawing" = some m.cls := findClass_of_methodNamed B.named
  have hlocks := B.notSynchronized
  subst hsz
  have hD := hD0.self (sz := s.heap.size)
  generalize hAe : va_A [] s.heap.size = A at hD hE ⊢
  have hA : ∀ q : Nat, s.heap.size ≤ q → A q := fun q h => by rw [← hAe]; exact Or.inr h
  have hS : va_S A s.heap s.heap [] := va_S.rf
  have hl := lv_entry ([.int n]) (n := 1) (Nat.le_of_ble_eq_true rfl)
  rw [lg_entry_eq]
  generalize (lg_sl ([.int n]) ++ List.replicate (1 - (lg_sl ([.int n])).length) Slot.unset).toArray = ls at hl ⊢
  have hl : lv_has ls 1 [(0, .int n)] := hl
  refine lv_iload_n hx hb d_D_bitOrNone_0 rfl (lv_at hl 0 rfl) ?_
  refine lv_bipush (v := 8) hx hb d_D_bitOrNone_1 (by decide) ?_
  refine lv_icmp_ge (tgt := 12) hx hb d_D_bitOrNone_3 (by decide) (fun r_3 => ?_) (fun r_3 => ?_)
  · have c_3 := r_3
    refine lv_iconst (v := 0) hx hb d_D_bitOrNone_12 (by decide) ?_
    exact cx_iret hx hb hr hlocks hK hP hD hS d_D_bitOrNone_13 (by rw [bd_bit, if_neg (Int32.not_lt.mpr c_3)]) (rfl)
  · have c_3 := r_3
    refine lv_iconst (v := 1) hx hb d_D_bitOrNone_6 (by decide) ?_
    refine lv_iload_n hx hb d_D_bitOrNone_7 rfl (lv_at hl 0 rfl) ?_
    refine lv_ishl hx hb d_D_bitOrNone_8 ?_
    refine lv_goto (tgt := 13) hx hb d_D_bitOrNone_9 (by decide) ?_
    exact cx_iret hx hb hr hlocks hK hP hD hS d_D_bitOrNone_13 (by rw [bd_bit, if_pos (Int32.not_le.mp c_3)]) (rfl)
set_option maxHeartbeats 4000000 in
set_option maxRecDepth 100000 in
theorem c_D_nextSort (l : Launch) (G : cx_G) (D : va_G) (K : cx_KT) (sz : Nat) (h0 : Nat) (w : Int64) (sk : Int32) (pb : Int32) (nu : Int32) (so : Int32) (fa : Int32) (fb : Int32) (ne : Int32) (mk : Int32)  : Met l y_D_nextSort w_D_nextSort ({ frames := 1, cells := 0, slots := 0, locals := 22 }) (cx_Pc G D (cx_ty K) [(h0, .inr (0, [.long w, .int sk, .int pb, .int nu, .int so, .int fa, .int fb, .int ne, .int mk]))] sz [.ref h0]) (cx_Qi (bd_so sk nu w) D (cx_ty K) [(h0, .inr (0, [.long (bd_w1 nu w), .int sk, .int pb, .int nu, .int so, .int fa, .int fb, .int ne, .int mk]))] (va_A [(h0, .inr (0, [.long w, .int sk, .int pb, .int nu, .int so, .int fa, .int fb, .int ne, .int mk]))] sz)) 0 0 (va_A [(h0, .inr (0, [.long w, .int sk, .int pb, .int nu, .int so, .int fa, .int fb, .int ne, .int mk]))] sz) := by
  refine Met.ofW (cc := prog_2_method_6_code) (maxL := 1) (ret := (some .int)) (by decide) rfl ?_
  intro p e s m args below meth c s₁ B hml hv
  obtain ⟨rfl, hsz, hP, hK, hD0, hE⟩ := hv
  have hx := B.exec
  have hb := B.bytes
  have hr := B.returns
  have hts := atoms_spec (ws := w_D_nextSort) B.pre
  have hw : ∀ w ∈ cw, w.before _ s = true := fun w h => hts w (List.mem_cons_of_mem _ h)
  have hown : s.vm.findClass "BuildDrawer$Drawing" = some m.cls := findClass_of_methodNamed B.named
  have hlocks := B.notSynchronized
  subst hsz
  have hD := hD0.self (sz := s.heap.size)
  generalize hAe : va_A [(h0, .inr (0, [.long w, .int sk, .int pb, .int nu, .int so, .int fa, .int fb, .int ne, .int mk]))] s.heap.size = A at hD hE ⊢
  have hA : ∀ q : Nat, s.heap.size ≤ q → A q := fun q h => by rw [← hAe]; exact Or.inr h
  have hS : va_S A s.heap s.heap [] := va_S.rf
  have hl := lv_entry ([.ref h0]) (n := 1) (Nat.le_of_ble_eq_true rfl)
  rw [lg_entry_eq]
  generalize (lg_sl ([.ref h0]) ++ List.replicate (1 - (lg_sl ([.ref h0])).length) Slot.unset).toArray = ls at hl ⊢
  have hl : lv_has ls 1 [(0, .ref h0)] := hl
  refine lv_aload_n hx hb d_D_nextSort_0 rfl (lv_at hl 0 rfl) ?_
  refine va_get (D := D) (ci := 0) (v := .int nu) (C := "BuildDrawer$Drawing") (T := TD) (N := 9) hx hb hw inD hown hK hP 0 rfl rfl 3 (by decide) (hw _ k_26) (fun _ h9 => h9) rfl d_D_nextSort_1 ?_
  refine lv_if_ne (tgt := 9) hx hb d_D_nextSort_4 (by decide) (fun r_4 => ?_) (fun r_4 => ?_)
  · have c_4 := r_4
    refine lv_aload_n hx hb d_D_nextSort_9 rfl (lv_at hl 0 rfl) ?_
    refine va_get (D := D) (ci := 0) (v := .int nu) (C := "BuildDrawer$Drawing") (T := TD) (N := 9) hx hb hw inD hown hK hP 0 rfl rfl 3 (by decide) (hw _ k_26) (fun _ h9 => h9) rfl d_D_nextSort_10 ?_
    refine lv_iconst (v := 1) hx hb d_D_nextSort_13 (by decide) ?_
    refine lv_icmp_ne (tgt := 19) hx hb d_D_nextSort_14 (by decide) (fun r_14 => ?_) (fun r_14 => ?_)
    · have c_14 := r_14
      refine lv_aload_n hx hb d_D_nextSort_19 rfl (lv_at hl 0 rfl) ?_
      refine lv_iconst (v := 4) hx hb d_D_nextSort_20 (by decide) ?_
      refine cx_ci (wr := []) (wN := [(h0, .inr (0, [.long (bd_w w), .int sk, .int pb, .int nu, .int so, .int fa, .int fb, .int ne, .int mk]))]) (va_runV (As := [.int 4]) (rest := []) ⟨hx, hb, hml, hown, hw⟩ (c_D_chance l G D K s.heap.size h0 w sk pb nu so fa fb ne mk 4) (cwV 1 hw (cx_gV k_116 k_118 ks_D_chance k_2 k_119) rfl rfl rfl (by decide +kernel) ⟨Nat.le_of_ble_eq_true rfl, Nat.le_of_ble_eq_true rfl⟩) (cx_preV (q0 := 0) (ci := 0) hK hP hD hS hA hE rfl rfl [0] rfl rfl (by decide)) rfl rfl hl.1 rfl (lv_room (Nat.le_of_ble_eq_true rfl)) d_D_nextSort_21 ⟨Nat.le_of_ble_eq_true rfl, Nat.le_of_ble_eq_true rfl⟩) hP hD hS hA [0] [] rfl rfl (by decide) (by decide) [0] rfl rfl (by decide) (fun H locs hP hD hS => ?_)
      refine lv_iconst (v := 3) hx hb d_D_nextSort_24 (by decide) ?_
      refine lv_icmp_ne (tgt := 32) hx hb d_D_nextSort_25 (by decide) (fun r_25 => ?_) (fun r_25 => ?_)
      · have c_25 := r_25
        refine lv_aload_n hx hb d_D_nextSort_32 rfl (lv_at hl 0 rfl) ?_
        refine va_get (D := D) (ci := 0) (v := .int sk) (C := "BuildDrawer$Drawing") (T := TD) (N := 9) hx hb hw inD hown hK hP 0 rfl rfl 1 (by decide) (hw _ k_24) (fun _ h9 => h9) rfl d_D_nextSort_33 ?_
        exact cx_iret hx hb hr hlocks hK hP hD hS d_D_nextSort_36 (by simp only [bd_so, if_neg c_4, if_neg c_14, if_neg c_25]) (by simp only [bd_w1, if_neg c_4, if_neg c_14])
      · have c_25 := r_25
        refine lv_iconst (v := 0) hx hb d_D_nextSort_28 (by decide) ?_
        refine lv_goto (tgt := 36) hx hb d_D_nextSort_29 (by decide) ?_
        exact cx_iret hx hb hr hlocks hK hP hD hS d_D_nextSort_36 (by simp only [bd_so, if_neg c_4, if_neg c_14, if_pos c_25]) (by simp only [bd_w1, if_neg c_4, if_neg c_14])
    · have c_14 := r_14
      refine lv_iconst (v := 1) hx hb d_D_nextSort_17 (by decide) ?_
      exact cx_iret hx hb hr hlocks hK hP hD hS d_D_nextSort_18 (by simp only [bd_so, if_neg c_4, if_pos c_14]) (by simp only [bd_w1, if_neg c_4, if_pos c_14])
  · have c_4 := r_4
    refine lv_iconst (v := 0) hx hb d_D_nextSort_7 (by decide) ?_
    exact cx_iret hx hb hr hlocks hK hP hD hS d_D_nextSort_8 (by simp only [bd_so, if_pos c_4]) (by simp only [bd_w1, if_pos c_4])
set_option maxHeartbeats 4000000 in
set_option maxRecDepth 100000 in
theorem c_D_nextBOfStep (l : Launch) (G : cx_G) (D : va_G) (K : cx_KT) (sz : Nat) (h0 : Nat) (w : Int64) (sk : Int32) (pb : Int32) (nu : Int32) (so : Int32) (fa : Int32) (fb : Int32) (ne : Int32) (mk : Int32)  : Met l y_D_nextBOfStep w_D_nextBOfStep ({ frames := 1, cells := 0, slots := 0, locals := 22 }) (cx_Pc G D (cx_ty K) [(h0, .inr (0, [.long w, .int sk, .int pb, .int nu, .int so, .int fa, .int fb, .int ne, .int mk]))] sz [.ref h0]) (cx_Qi (bd_stp w) D (cx_ty K) [(h0, .inr (0, [.long (bd_w (bd_w w)), .int sk, .int pb, .int nu, .int so, .int fa, .int fb, .int ne, .int mk]))] (va_A [(h0, .inr (0, [.long w, .int sk, .int pb, .int nu, .int so, .int fa, .int fb, .int ne, .int mk]))] sz)) 0 0 (va_A [(h0, .inr (0, [.long w, .int sk, .int pb, .int nu, .int so, .int fa, .int fb, .int ne, .int mk]))] sz) := by
  refine Met.ofW (cc := prog_2_method_8_code) (maxL := 2) (ret := (some .int)) (by decide) rfl ?_
  intro p e s m args below meth c s₁ B hml hv
  obtain ⟨rfl, hsz, hP, hK, hD0, hE⟩ := hv
  have hx := B.exec
  have hb := B.bytes
  have hr := B.returns
  have hts := atoms_spec (ws := w_D_nextBOfStep) B.pre
  have hw : ∀ w ∈ cw, w.before _ s = true := fun w h => hts w (List.mem_cons_of_mem _ h)
  have hown : s.vm.findClass "BuildDrawer$Drawing" = some m.cls := findClass_of_methodNamed B.named
  have hlocks := B.notSynchronized
  subst hsz
  have hD := hD0.self (sz := s.heap.size)
  generalize hAe : va_A [(h0, .inr (0, [.long w, .int sk, .int pb, .int nu, .int so, .int fa, .int fb, .int ne, .int mk]))] s.heap.size = A at hD hE ⊢
  have hA : ∀ q : Nat, s.heap.size ≤ q → A q := fun q h => by rw [← hAe]; exact Or.inr h
  have hS : va_S A s.heap s.heap [] := va_S.rf
  have hl := lv_entry ([.ref h0]) (n := 2) (Nat.le_of_ble_eq_true rfl)
  rw [lg_entry_eq]
  generalize (lg_sl ([.ref h0]) ++ List.replicate (2 - (lg_sl ([.ref h0])).length) Slot.unset).toArray = ls at hl ⊢
  have hl : lv_has ls 2 [(0, .ref h0)] := hl
  refine lv_aload_n hx hb d_D_nextBOfStep_0 rfl (lv_at hl 0 rfl) ?_
  refine lv_bipush (v := 12) hx hb d_D_nextBOfStep_1 (by decide) ?_
  refine cx_ci (wr := []) (wN := [(h0, .inr (0, [.long (bd_w w), .int sk, .int pb, .int nu, .int so, .int fa, .int fb, .int ne, .int mk]))]) (va_runV (As := [.int 12]) (rest := []) ⟨hx, hb, hml, hown, hw⟩ (c_D_chance l G D K s.heap.size h0 w sk pb nu so fa fb ne mk 12) (cwV 1 hw (cx_gV k_116 k_118 ks_D_chance k_2 k_119) rfl rfl rfl (by decide +kernel) ⟨Nat.le_of_ble_eq_true rfl, Nat.le_of_ble_eq_true rfl⟩) (cx_preV (q0 := 0) (ci := 0) hK hP hD hS hA hE rfl rfl [0] rfl rfl (by decide)) rfl rfl hl.1 rfl (lv_room (Nat.le_of_ble_eq_true rfl)) d_D_nextBOfStep_3 ⟨Nat.le_of_ble_eq_true rfl, Nat.le_of_ble_eq_true rfl⟩) hP hD hS hA [0] [] rfl rfl (by decide) (by decide) [0] rfl rfl (by decide) (fun H locs hP hD hS => ?_)
  refine lv_istore_n (lv' := [(1, .int (bd_c w 12)), (0, .ref h0)]) hx hb d_D_nextBOfStep_6 rfl hl (by decide) rfl (fun ls hl => ?_)
  refine lv_aload_n hx hb d_D_nextBOfStep_7 rfl (lv_at hl 1 rfl) ?_
  refine lv_iconst (v := 5) hx hb d_D_nextBOfStep_8 (by decide) ?_
  refine cx_ci (wr := []) (wN := [(h0, .inr (0, [.long (bd_w (bd_w w)), .int sk, .int pb, .int nu, .int so, .int fa, .int fb, .int ne, .int mk]))]) (va_runV (As := [.int 5]) (rest := []) ⟨hx, hb, hml, hown, hw⟩ (c_D_chance l G D K H.size h0 (bd_w w) sk pb nu so fa fb ne mk 5) (cwV 1 hw (cx_gV k_116 k_118 ks_D_chance k_2 k_119) rfl rfl rfl (by decide +kernel) ⟨Nat.le_of_ble_eq_true rfl, Nat.le_of_ble_eq_true rfl⟩) (cx_preV (q0 := 0) (ci := 0) hK hP hD hS hA hE rfl rfl [0] rfl rfl (by decide)) rfl rfl hl.1 rfl (lv_room (Nat.le_of_ble_eq_true rfl)) d_D_nextBOfStep_9 ⟨Nat.le_of_ble_eq_true rfl, Nat.le_of_ble_eq_true rfl⟩) hP hD hS hA [0] [] rfl rfl (by decide) (by decide) [0] rfl rfl (by decide) (fun H locs hP hD hS => ?_)
  refine lv_if_ne (tgt := 22) hx hb d_D_nextBOfStep_12 (by decide) (fun r_12 => ?_) (fun r_12 => ?_)
  · have c_12 := r_12
    refine lv_iload_n hx hb d_D_nextBOfStep_22 rfl (lv_at hl 0 rfl) ?_
    exact cx_iret hx hb hr hlocks hK hP hD hS d_D_nextBOfStep_23 (by simp only [bd_stp, if_neg c_12]) (rfl)
  · have c_12 := r_12
    refine lv_iload_n hx hb d_D_nextBOfStep_15 rfl (lv_at hl 0 rfl) ?_
    refine lv_bipush (v := 100) hx hb d_D_nextBOfStep_16 (by decide) ?_
    refine lv_iadd hx hb d_D_nextBOfStep_18 ?_
    refine lv_goto (tgt := 23) hx hb d_D_nextBOfStep_19 (by decide) ?_
    exact cx_iret hx hb hr hlocks hK hP hD hS d_D_nextBOfStep_23 (by simp only [bd_stp, if_pos c_12]) (rfl)
set_option maxHeartbeats 4000000 in
set_option maxRecDepth 100000 in
theorem c_D_nextB (l : Launch) (G : cx_G) (D : va_G) (K : cx_KT) (sz : Nat) (h0 : Nat) (w : Int64) (sk : Int32) (pb : Int32) (nu : Int32) (so : Int32) (fa : Int32) (fb : Int32) (ne : Int32) (mk : Int32)  : Met l y_D_nextB w_D_nextB ({ frames := 2, cells := 0, slots := 0, locals := 43 }) (cx_Pc G D (cx_ty K) [(h0, .inr (0, [.long w, .int sk, .int pb, .int nu, .int so, .int fa, .int fb, .int ne, .int mk]))] sz [.ref h0]) (cx_Qi (bd_b so pb w) D (cx_ty K) [(h0, .inr (0, [.long (bd_w3 so w), .int sk, .int pb, .int nu, .int so, .int fa, .int fb, .int ne, .int mk]))] (va_A [(h0, .inr (0, [.long w, .int sk, .int pb, .int nu, .int so, .int fa, .int fb, .int ne, .int mk]))] sz)) 0 0 (va_A [(h0, .inr (0, [.long w, .int sk, .int pb, .int nu, .int so, .int fa, .int fb, .int ne, .int mk]))] sz) := by
  refine Met.ofW (cc := prog_2_method_7_code) (maxL := 1) (ret := (some .int)) (by decide) rfl ?_
  intro p e s m args below meth c s₁ B hml hv
  obtain ⟨rfl, hsz, hP, hK, hD0, hE⟩ := hv
  have hx := B.exec
  have hb := B.bytes
  have hr := B.returns
  have hts := atoms_spec (ws := w_D_nextB) B.pre
  have hw : ∀ w ∈ cw, w.before _ s = true := fun w h => hts w (List.mem_cons_of_mem _ h)
  have hown : s.vm.findClass "BuildDrawer$Drawing" = some m.cls := findClass_of_methodNamed B.named
  have hlocks := B.notSynchronized
  subst hsz
  have hD := hD0.self (sz := s.heap.size)
  generalize hAe : va_A [(h0, .inr (0, [.long w, .int sk, .int pb, .int nu, .int so, .int fa, .int fb, .int ne, .int mk]))] s.heap.size = A at hD hE ⊢
  have hA : ∀ q : Nat, s.heap.size ≤ q → A q := fun q h => by rw [← hAe]; exact Or.inr h
  have hS : va_S A s.heap s.heap [] := va_S.rf
  have hl := lv_entry ([.ref h0]) (n := 1) (Nat.le_of_ble_eq_true rfl)
  rw [lg_entry_eq]
  generalize (lg_sl ([.ref h0]) ++ List.replicate (1 - (lg_sl ([.ref h0])).length) Slot.unset).toArray = ls at hl ⊢
  have hl : lv_has ls 1 [(0, .ref h0)] := hl
  refine lv_aload_n hx hb d_D_nextB_0 rfl (lv_at hl 0 rfl) ?_
  refine va_get (D := D) (ci := 0) (v := .int so) (C := "BuildDrawer$Drawing") (T := TD) (N := 9) hx hb hw inD hown hK hP 0 rfl rfl 4 (by decide) (hw _ k_27) (fun _ h9 => h9) rfl d_D_nextB_1 ?_
  by_cases z_0 : so = 0
  · refine lv_tableIn (tgt := 48) (off := 44) hx hb d_D_nextB_4 (by rw [z_0]; decide) (by rw [z_0]; decide) (by rw [z_0]; rfl) (by decide) ?_
    refine lv_aload_n hx hb d_D_nextB_48 rfl (lv_at hl 0 rfl) ?_
    refine lv_bipush (v := 100) hx hb d_D_nextB_49 (by decide) ?_
    refine cx_ci (wr := []) (wN := [(h0, .inr (0, [.long (bd_w w), .int sk, .int pb, .int nu, .int so, .int fa, .int fb, .int ne, .int mk]))]) (va_runV (As := [.int 100]) (rest := []) ⟨hx, hb, hml, hown, hw⟩ (c_D_chance l G D K s.heap.size h0 w sk pb nu so fa fb ne mk 100) (cwV 1 hw (cx_gV k_116 k_118 ks_D_chance k_2 k_119) rfl rfl rfl (by decide +kernel) ⟨Nat.le_of_ble_eq_true rfl, Nat.le_of_ble_eq_true rfl⟩) (cx_preV (q0 := 0) (ci := 0) hK hP hD hS hA hE rfl rfl [0] rfl rfl (by decide)) rfl rfl hl.1 rfl (lv_room (Nat.le_of_ble_eq_true rfl)) d_D_nextB_51 ⟨Nat.le_of_ble_eq_true rfl, Nat.le_of_ble_eq_true rfl⟩) hP hD hS hA [0] [] rfl rfl (by decide) (by decide) [0] rfl rfl (by decide) (fun H locs hP hD hS => ?_)
    exact cx_iret hx hb hr hlocks hK hP hD hS d_D_nextB_54 (by simp only [bd_b, if_pos z_0]) (by rw [bd_w3, if_neg (by rw [z_0]; decide)])
  by_cases z_1 : so = 1
  · refine lv_tableIn (tgt := 55) (off := 51) hx hb d_D_nextB_4 (by rw [z_1]; decide) (by rw [z_1]; decide) (by rw [z_1]; rfl) (by decide) ?_
    refine lv_aload_n hx hb d_D_nextB_55 rfl (lv_at hl 0 rfl) ?_
    refine lv_bipush (v := 8) hx hb d_D_nextB_56 (by decide) ?_
    refine cx_ci (wr := []) (wN := [(h0, .inr (0, [.long (bd_w w), .int sk, .int pb, .int nu, .int so, .int fa, .int fb, .int ne, .int mk]))]) (va_runV (As := [.int 8]) (rest := []) ⟨hx, hb, hml, hown, hw⟩ (c_D_chance l G D K s.heap.size h0 w sk pb nu so fa fb ne mk 8) (cwV 1 hw (cx_gV k_116 k_118 ks_D_chance k_2 k_119) rfl rfl rfl (by decide +kernel) ⟨Nat.le_of_ble_eq_true rfl, Nat.le_of_ble_eq_true rfl⟩) (cx_preV (q0 := 0) (ci := 0) hK hP hD hS hA hE rfl rfl [0] rfl rfl (by decide)) rfl rfl hl.1 rfl (lv_room (Nat.le_of_ble_eq_true rfl)) d_D_nextB_58 ⟨Nat.le_of_ble_eq_true rfl, Nat.le_of_ble_eq_true rfl⟩) hP hD hS hA [0] [] rfl rfl (by decide) (by decide) [0] rfl rfl (by decide) (fun H locs hP hD hS => ?_)
    exact cx_iret hx hb hr hlocks hK hP hD hS d_D_nextB_61 (by simp only [bd_b, if_neg z_0, if_pos z_1]) (by rw [bd_w3, if_neg (by rw [z_1]; decide)])
  by_cases z_2 : so = 2
  · refine lv_tableIn (tgt := 62) (off := 58) hx hb d_D_nextB_4 (by rw [z_2]; decide) (by rw [z_2]; decide) (by rw [z_2]; rfl) (by decide) ?_
    refine lv_aload_n hx hb d_D_nextB_62 rfl (lv_at hl 0 rfl) ?_
    refine lv_sipush (v := 256) hx hb d_D_nextB_63 (by decide) ?_
    refine cx_ci (wr := []) (wN := [(h0, .inr (0, [.long (bd_w w), .int sk, .int pb, .int nu, .int so, .int fa, .int fb, .int ne, .int mk]))]) (va_runV (As := [.int 256]) (rest := []) ⟨hx, hb, hml, hown, hw⟩ (c_D_chance l G D K s.heap.size h0 w sk pb nu so fa fb ne mk 256) (cwV 1 hw (cx_gV k_116 k_118 ks_D_chance k_2 k_119) rfl rfl rfl (by decide +kernel) ⟨Nat.le_of_ble_eq_true rfl, Nat.le_of_ble_eq_true rfl⟩) (cx_preV (q0 := 0) (ci := 0) hK hP hD hS hA hE rfl rfl [0] rfl rfl (by decide)) rfl rfl hl.1 rfl (lv_room (Nat.le_of_ble_eq_true rfl)) d_D_nextB_66 ⟨Nat.le_of_ble_eq_true rfl, Nat.le_of_ble_eq_true rfl⟩) hP hD hS hA [0] [] rfl rfl (by decide) (by decide) [0] rfl rfl (by decide) (fun H locs hP hD hS => ?_)
    refine lv_aload_n hx hb d_D_nextB_69 rfl (lv_at hl 0 rfl) ?_
    refine va_get (D := D) (ci := 0) (v := .int pb) (C := "BuildDrawer$Drawing") (T := TD) (N := 9) hx hb hw inD hown hK hP 0 rfl rfl 2 (by decide) (hw _ k_25) (fun _ h9 => h9) rfl d_D_nextB_70 ?_
    refine lv_ior hx hb d_D_nextB_73 ?_
    exact cx_iret hx hb hr hlocks hK hP hD hS d_D_nextB_74 (by simp only [bd_b, if_neg z_0, if_neg z_1, if_pos z_2]) (by rw [bd_w3, if_neg (by rw [z_2]; decide)])
  by_cases z_3 : so = 3
  · refine lv_tableIn (tgt := 75) (off := 71) hx hb d_D_nextB_4 (by rw [z_3]; decide) (by rw [z_3]; decide) (by rw [z_3]; rfl) (by decide) ?_
    refine lv_aload_n hx hb d_D_nextB_75 rfl (lv_at hl 0 rfl) ?_
    refine lv_bipush (v := 10) hx hb d_D_nextB_76 (by decide) ?_
    refine cx_ci (wr := []) (wN := [(h0, .inr (0, [.long (bd_w w), .int sk, .int pb, .int nu, .int so, .int fa, .int fb, .int ne, .int mk]))]) (va_runV (As := [.int 10]) (rest := []) ⟨hx, hb, hml, hown, hw⟩ (c_D_chance l G D K s.heap.size h0 w sk pb nu so fa fb ne mk 10) (cwV 1 hw (cx_gV k_116 k_118 ks_D_chance k_2 k_119) rfl rfl rfl (by decide +kernel) ⟨Nat.le_of_ble_eq_true rfl, Nat.le_of_ble_eq_true rfl⟩) (cx_preV (q0 := 0) (ci := 0) hK hP hD hS hA hE rfl rfl [0] rfl rfl (by decide)) rfl rfl hl.1 rfl (lv_room (Nat.le_of_ble_eq_true rfl)) d_D_nextB_78 ⟨Nat.le_of_ble_eq_true rfl, Nat.le_of_ble_eq_true rfl⟩) hP hD hS hA [0] [] rfl rfl (by decide) (by decide) [0] rfl rfl (by decide) (fun H locs hP hD hS => ?_)
    exact cx_iret hx hb hr hlocks hK hP hD hS d_D_nextB_81 (by simp only [bd_b, if_neg z_0, if_neg z_1, if_neg z_2, if_pos z_3]) (by rw [bd_w3, if_neg (by rw [z_3]; decide)])
  by_cases z_4 : so = 4
  · refine lv_tableIn (tgt := 82) (off := 78) hx hb d_D_nextB_4 (by rw [z_4]; decide) (by rw [z_4]; decide) (by rw [z_4]; rfl) (by decide) ?_
    refine lv_aload_n hx hb d_D_nextB_82 rfl (lv_at hl 0 rfl) ?_
    refine cx_ci (wr := []) (wN := [(h0, .inr (0, [.long (bd_w (bd_w w)), .int sk, .int pb, .int nu, .int so, .int fa, .int fb, .int ne, .int mk]))]) (va_runV (As := []) (rest := []) ⟨hx, hb, hml, hown, hw⟩ (c_D_nextBOfStep l G D K s.heap.size h0 w sk pb nu so fa fb ne mk) (cwV 0 hw (cx_gV k_137 k_139 ks_D_nextBOfStep k_2 k_140) rfl rfl rfl (by decide +kernel) ⟨Nat.le_of_ble_eq_true rfl, Nat.le_of_ble_eq_true rfl⟩) (cx_preV (q0 := 0) (ci := 0) hK hP hD hS hA hE rfl rfl [0] rfl rfl (by decide)) rfl rfl hl.1 rfl (lv_room (Nat.le_of_ble_eq_true rfl)) d_D_nextB_83 ⟨Nat.le_of_ble_eq_true rfl, Nat.le_of_ble_eq_true rfl⟩) hP hD hS hA [0] [] rfl rfl (by decide) (by decide) [0] rfl rfl (by decide) (fun H locs hP hD hS => ?_)
    exact cx_iret hx hb hr hlocks hK hP hD hS d_D_nextB_86 (by simp only [bd_b, if_neg z_0, if_neg z_1, if_neg z_2, if_neg z_3, if_pos z_4]) (by simp only [bd_w3, if_pos z_4])
  by_cases z_5 : so = 5
  · refine lv_tableIn (tgt := 87) (off := 83) hx hb d_D_nextB_4 (by rw [z_5]; decide) (by rw [z_5]; decide) (by rw [z_5]; rfl) (by decide) ?_
    refine lv_aload_n hx hb d_D_nextB_87 rfl (lv_at hl 0 rfl) ?_
    refine lv_iconst (v := 5) hx hb d_D_nextB_88 (by decide) ?_
    refine cx_ci (wr := []) (wN := [(h0, .inr (0, [.long (bd_w w), .int sk, .int pb, .int nu, .int so, .int fa, .int fb, .int ne, .int mk]))]) (va_runV (As := [.int 5]) (rest := []) ⟨hx, hb, hml, hown, hw⟩ (c_D_chance l G D K s.heap.size h0 w sk pb nu so fa fb ne mk 5) (cwV 1 hw (cx_gV k_116 k_118 ks_D_chance k_2 k_119) rfl rfl rfl (by decide +kernel) ⟨Nat.le_of_ble_eq_true rfl, Nat.le_of_ble_eq_true rfl⟩) (cx_preV (q0 := 0) (ci := 0) hK hP hD hS hA hE rfl rfl [0] rfl rfl (by decide)) rfl rfl hl.1 rfl (lv_room (Nat.le_of_ble_eq_true rfl)) d_D_nextB_89 ⟨Nat.le_of_ble_eq_true rfl, Nat.le_of_ble_eq_true rfl⟩) hP hD hS hA [0] [] rfl rfl (by decide) (by decide) [0] rfl rfl (by decide) (fun H locs hP hD hS => ?_)
    exact cx_iret hx hb hr hlocks hK hP hD hS d_D_nextB_92 (by simp only [bd_b, if_neg z_0, if_neg z_1, if_neg z_2, if_neg z_3, if_neg z_4, if_pos z_5]) (by rw [bd_w3, if_neg z_4])
  by_cases z_6 : so = 6
  · refine lv_tableIn (tgt := 93) (off := 89) hx hb d_D_nextB_4 (by rw [z_6]; decide) (by rw [z_6]; decide) (by rw [z_6]; rfl) (by decide) ?_
    refine lv_aload_n hx hb d_D_nextB_93 rfl (lv_at hl 0 rfl) ?_
    refine lv_bipush (v := 7) hx hb d_D_nextB_94 (by decide) ?_
    refine cx_ci (wr := []) (wN := [(h0, .inr (0, [.long (bd_w w), .int sk, .int pb, .int nu, .int so, .int fa, .int fb, .int ne, .int mk]))]) (va_runV (As := [.int 7]) (rest := []) ⟨hx, hb, hml, hown, hw⟩ (c_D_chance l G D K s.heap.size h0 w sk pb nu so fa fb ne mk 7) (cwV 1 hw (cx_gV k_116 k_118 ks_D_chance k_2 k_119) rfl rfl rfl (by decide +kernel) ⟨Nat.le_of_ble_eq_true rfl, Nat.le_of_ble_eq_true rfl⟩) (cx_preV (q0 := 0) (ci := 0) hK hP hD hS hA hE rfl rfl [0] rfl rfl (by decide)) rfl rfl hl.1 rfl (lv_room (Nat.le_of_ble_eq_true rfl)) d_D_nextB_96 ⟨Nat.le_of_ble_eq_true rfl, Nat.le_of_ble_eq_true rfl⟩) hP hD hS hA [0] [] rfl rfl (by decide) (by decide) [0] rfl rfl (by decide) (fun H locs hP hD hS => ?_)
    exact cx_iret hx hb hr hlocks hK hP hD hS d_D_nextB_99 (by simp only [bd_b, if_neg z_0, if_neg z_1, if_neg z_2, if_neg z_3, if_neg z_4, if_neg z_5, if_pos z_6]) (by rw [bd_w3, if_neg z_4])
  refine lv_tableOut (tgt := 100) hx hb d_D_nextB_4 (cx_out7 z_0 z_1 z_2 z_3 z_4 z_5 z_6) (by decide) ?_
  refine lv_aload_n hx hb d_D_nextB_100 rfl (lv_at hl 0 rfl) ?_
  refine lv_bipush (v := 6) hx hb d_D_nextB_101 (by decide) ?_
  refine cx_ci (wr := []) (wN := [(h0, .inr (0, [.long (bd_w w), .int sk, .int pb, .int nu, .int so, .int fa, .int fb, .int ne, .int mk]))]) (va_runV (As := [.int 6]) (rest := []) ⟨hx, hb, hml, hown, hw⟩ (c_D_chance l G D K s.heap.size h0 w sk pb nu so fa fb ne mk 6) (cwV 1 hw (cx_gV k_116 k_118 ks_D_chance k_2 k_119) rfl rfl rfl (by decide +kernel) ⟨Nat.le_of_ble_eq_true rfl, Nat.le_of_ble_eq_true rfl⟩) (cx_preV (q0 := 0) (ci := 0) hK hP hD hS hA hE rfl rfl [0] rfl rfl (by decide)) rfl rfl hl.1 rfl (lv_room (Nat.le_of_ble_eq_true rfl)) d_D_nextB_103 ⟨Nat.le_of_ble_eq_true rfl, Nat.le_of_ble_eq_true rfl⟩) hP hD hS hA [0] [] rfl rfl (by decide) (by decide) [0] rfl rfl (by decide) (fun H locs hP hD hS => ?_)
  exact cx_iret hx hb hr hlocks hK hP hD hS d_D_nextB_106 (by simp only [bd_b, if_neg z_0, if_neg z_1, if_neg z_2, if_neg z_3, if_neg z_4, if_neg z_5, if_neg z_6]) (by rw [bd_w3, if_neg z_4])
set_option maxHeartbeats 4000000 in
set_option maxRecDepth 100000 in
theorem c_D_nextNeed (l : Launch) (G : cx_G) (D : va_G) (K : cx_KT) (sz : Nat) (h0 : Nat) (w : Int64) (sk : Int32) (pb : Int32) (nu : Int32) (so : Int32) (fa : Int32) (fb : Int32) (ne : Int32) (mk : Int32)  : Met l y_D_nextNeed w_D_nextNeed ({ frames := 1, cells := 0, slots := 0, locals := 22 }) (cx_Pc G D (cx_ty K) [(h0, .inr (0, [.long w, .int sk, .int pb, .int nu, .int so, .int fa, .int fb, .int ne, .int mk]))] sz [.ref h0]) (cx_Qi (bd_ne nu w) D (cx_ty K) [(h0, .inr (0, [.long (bd_w5 nu w), .int sk, .int pb, .int nu, .int so, .int fa, .int fb, .int ne, .int mk]))] (va_A [(h0, .inr (0, [.long w, .int sk, .int pb, .int nu, .int so, .int fa, .int fb, .int ne, .int mk]))] sz)) 0 0 (va_A [(h0, .inr (0, [.long w, .int sk, .int pb, .int nu, .int so, .int fa, .int fb, .int ne, .int mk]))] sz) := by
  refine Met.ofW (cc := prog_2_method_9_code) (maxL := 2) (ret := (some .int)) (by decide) rfl ?_
  intro p e s m args below meth c s₁ B hml hv
  obtain ⟨rfl, hsz, hP, hK, hD0, hE⟩ := hv
  have hx := B.exec
  have hb := B.bytes
  have hr := B.returns
  have hts := atoms_spec (ws := w_D_nextNeed) B.pre
  have hw : ∀ w ∈ cw, w.before _ s = true := fun w h => hts w (List.mem_cons_of_mem _ h)
  have hown : s.vm.findClass "BuildDrawer$Drawing" = some m.cls := findClass_of_methodNamed B.named
  have hlocks := B.notSynchronized
  subst hsz
  have hD := hD0.self (sz := s.heap.size)
  generalize hAe : va_A [(h0, .inr (0, [.long w, .int sk, .int pb, .int nu, .int so, .int fa, .int fb, .int ne, .int mk]))] s.heap.size = A at hD hE ⊢
  have hA : ∀ q : Nat, s.heap.size ≤ q → A q := fun q h => by rw [← hAe]; exact Or.inr h
  have hS : va_S A s.heap s.heap [] := va_S.rf
  have hl := lv_entry ([.ref h0]) (n := 2) (Nat.le_of_ble_eq_true rfl)
  rw [lg_entry_eq]
  generalize (lg_sl ([.ref h0]) ++ List.replicate (2 - (lg_sl ([.ref h0])).length) Slot.unset).toArray = ls at hl ⊢
  have hl : lv_has ls 2 [(0, .ref h0)] := hl
  refine lv_aload_n hx hb d_D_nextNeed_0 rfl (lv_at hl 0 rfl) ?_
  refine va_get (D := D) (ci := 0) (v := .int nu) (C := "BuildDrawer$Drawing") (T := TD) (N := 9) hx hb hw inD hown hK hP 0 rfl rfl 3 (by decide) (hw _ k_26) (fun _ h9 => h9) rfl d_D_nextNeed_1 ?_
  refine lv_if_ne (tgt := 9) hx hb d_D_nextNeed_4 (by decide) (fun r_4 => ?_) (fun r_4 => ?_)
  · have c_4 := r_4
    refine lv_aload_n hx hb d_D_nextNeed_9 rfl (lv_at hl 0 rfl) ?_
    refine va_get (D := D) (ci := 0) (v := .int nu) (C := "BuildDrawer$Drawing") (T := TD) (N := 9) hx hb hw inD hown hK hP 0 rfl rfl 3 (by decide) (hw _ k_26) (fun _ h9 => h9) rfl d_D_nextNeed_10 ?_
    refine lv_iconst (v := 1) hx hb d_D_nextNeed_13 (by decide) ?_
    refine lv_icmp_ne (tgt := 19) hx hb d_D_nextNeed_14 (by decide) (fun r_14 => ?_) (fun r_14 => ?_)
    · have c_14 := r_14
      refine lv_aload_n hx hb d_D_nextNeed_19 rfl (lv_at hl 0 rfl) ?_
      refine lv_aload_n hx hb d_D_nextNeed_20 rfl (lv_at hl 0 rfl) ?_
      refine va_get (D := D) (ci := 0) (v := .int nu) (C := "BuildDrawer$Drawing") (T := TD) (N := 9) hx hb hw inD hown hK hP 0 rfl rfl 3 (by decide) (hw _ k_26) (fun _ h9 => h9) rfl d_D_nextNeed_21 ?_
      refine lv_iconst (v := 1) hx hb d_D_nextNeed_24 (by decide) ?_
      refine lv_iadd hx hb d_D_nextNeed_25 ?_
      refine cx_ci (wr := []) (wN := [(h0, .inr (0, [.long (bd_w w), .int sk, .int pb, .int nu, .int so, .int fa, .int fb, .int ne, .int mk]))]) (va_runV (As := [.int (nu + 1)]) (rest := []) ⟨hx, hb, hml, hown, hw⟩ (c_D_chance l G D K s.heap.size h0 w sk pb nu so fa fb ne mk (nu + 1)) (cwV 1 hw (cx_gV k_116 k_118 ks_D_chance k_2 k_119) rfl rfl rfl (by decide +kernel) ⟨Nat.le_of_ble_eq_true rfl, Nat.le_of_ble_eq_true rfl⟩) (cx_preV (q0 := 0) (ci := 0) hK hP hD hS hA hE rfl rfl [0] rfl rfl (by decide)) rfl rfl hl.1 rfl (lv_room (Nat.le_of_ble_eq_true rfl)) d_D_nextNeed_26 ⟨Nat.le_of_ble_eq_true rfl, Nat.le_of_ble_eq_true rfl⟩) hP hD hS hA [0] [] rfl rfl (by decide) (by decide) [0] rfl rfl (by decide) (fun H locs hP hD hS => ?_)
      refine lv_istore_n (lv' := [(1, .int (bd_c w (nu + 1))), (0, .ref h0)]) hx hb d_D_nextNeed_29 rfl hl (by decide) rfl (fun ls hl => ?_)
      refine lv_iload_n hx hb d_D_nextNeed_30 rfl (lv_at hl 0 rfl) ?_
      refine lv_aload_n hx hb d_D_nextNeed_31 rfl (lv_at hl 1 rfl) ?_
      refine va_get (D := D) (ci := 0) (v := .int nu) (C := "BuildDrawer$Drawing") (T := TD) (N := 9) hx hb hw inD hown hK hP 0 rfl rfl 3 (by decide) (hw _ k_26) (fun _ h9 => h9) rfl d_D_nextNeed_32 ?_
      refine lv_icmp_ne (tgt := 42) hx hb d_D_nextNeed_35 (by decide) (fun r_35 => ?_) (fun r_35 => ?_)
      · have c_35 := r_35
        refine lv_iload_n hx hb d_D_nextNeed_42 rfl (lv_at hl 0 rfl) ?_
        exact cx_iret hx hb hr hlocks hK hP hD hS d_D_nextNeed_43 (by simp only [bd_ne, if_neg c_4, if_neg c_14, if_neg c_35]) (by simp only [bd_w5, if_neg c_4, if_neg c_14])
      · have c_35 := r_35
        refine lv_iconst (v := (-1)) hx hb d_D_nextNeed_38 (by decide) ?_
        refine lv_goto (tgt := 43) hx hb d_D_nextNeed_39 (by decide) ?_
        exact cx_iret hx hb hr hlocks hK hP hD hS d_D_nextNeed_43 (by simp only [bd_ne, if_neg c_4, if_neg c_14, if_pos c_35]) (by simp only [bd_w5, if_neg c_4, if_neg c_14])
    · have c_14 := r_14
      refine lv_iconst (v := 0) hx hb d_D_nextNeed_17 (by decide) ?_
      exact cx_iret hx hb hr hlocks hK hP hD hS d_D_nextNeed_18 (by simp only [bd_ne, if_neg c_4, if_pos c_14]) (by simp only [bd_w5, if_neg c_4, if_pos c_14])
  · have c_4 := r_4
    refine lv_iconst (v := (-1)) hx hb d_D_nextNeed_7 (by decide) ?_
    exact cx_iret hx hb hr hlocks hK hP hD hS d_D_nextNeed_8 (by simp only [bd_ne, if_pos c_4]) (by simp only [bd_w5, if_pos c_4])
set_option maxHeartbeats 4000000 in
set_option maxRecDepth 100000 in
theorem c_D_next (l : Launch) (G : cx_G) (D : va_G) (K : cx_KT) (sz : Nat) (h0 : Nat) (w : Int64) (sk : Int32) (pb : Int32) (nu : Int32) (so : Int32) (fa : Int32) (fb : Int32) (ne : Int32) (mk : Int32)  : Met l y_D_next w_D_next ({ frames := 3, cells := 0, slots := 0, locals := 63 }) (cx_Pc G D (cx_ty K) [(h0, .inr (0, [.long w, .int sk, .int pb, .int nu, .int so, .int fa, .int fb, .int ne, .int mk]))] sz [.ref h0]) (cx_Qv D (cx_ty K) [(h0, .inr (0, [.long (bd_nW sk (nu + 1) w), .int sk, .int pb, .int (nu + 1), .int (bd_nS sk (nu + 1) w), .int (bd_nA (nu + 1) w), .int (bd_nB sk pb (nu + 1) w), .int (bd_nN sk (nu + 1) w), .int (bd_nM sk (nu + 1) w)]))] (va_A [(h0, .inr (0, [.long w, .int sk, .int pb, .int nu, .int so, .int fa, .int fb, .int ne, .int mk]))] sz)) 0 0 (va_A [(h0, .inr (0, [.long w, .int sk, .int pb, .int nu, .int so, .int fa, .int fb, .int ne, .int mk]))] sz) := by
  refine Met.ofW (cc := prog_2_method_3_code) (maxL := 1) (ret := none) (by decide) rfl ?_
  intro p e s m args below meth c s₁ B hml hv
  obtain ⟨rfl, hsz, hP, hK, hD0, hE⟩ := hv
  have hx := B.exec
  have hb := B.bytes
  have hr := B.returns
  have hts := atoms_spec (ws := w_D_next) B.pre
  have hw : ∀ w ∈ cw, w.before _ s = true := fun w h => hts w (List.mem_cons_of_mem _ h)
  have hown : s.vm.findClass "BuildDrawer$Drawing" = some m.cls := findClass_of_methodNamed B.named
  have hlocks := B.notSynchronized
  subst hsz
  have hD := hD0.self (sz := s.heap.size)
  generalize hAe : va_A [(h0, .inr (0, [.long w, .int sk, .int pb, .int nu, .int so, .int fa, .int fb, .int ne, .int mk]))] s.heap.size = A at hD hE ⊢
  have hA : ∀ q : Nat, s.heap.size ≤ q → A q := fun q h => by rw [← hAe]; exact Or.inr h
  have hS : va_S A s.heap s.heap [] := va_S.rf
  have hl := lv_entry ([.ref h0]) (n := 1) (Nat.le_of_ble_eq_true rfl)
  rw [lg_entry_eq]
  generalize (lg_sl ([.ref h0]) ++ List.replicate (1 - (lg_sl ([.ref h0])).length) Slot.unset).toArray = ls at hl ⊢
  have hl : lv_has ls 1 [(0, .ref h0)] := hl
  refine lv_aload_n hx hb d_D_next_0 rfl (lv_at hl 0 rfl) ?_
  refine lv_dup hx hb d_D_next_1 rfl ?_
  refine va_get (D := D) (ci := 0) (v := .int nu) (C := "BuildDrawer$Drawing") (T := TD) (N := 9) hx hb hw inD hown hK hP 0 rfl rfl 3 (by decide) (hw _ k_26) (fun _ h9 => h9) rfl d_D_next_2 ?_
  refine lv_iconst (v := 1) hx hb d_D_next_5 (by decide) ?_
  refine lv_iadd hx hb d_D_next_6 ?_
  refine va_put (D := D) (ci := 0) (v := .int (nu + 1)) (ty := .int) (C := "BuildDrawer$Drawing") (T := TD) (N := 9) hx hb hw inD tyD tyD_ok nmD hown hK hP hD hS 0 rfl rfl 3 (by decide) (hw _ k_26) (fun _ h9 => h9) rfl (by decide +kernel) rfl rfl (Nat.le_of_ble_eq_true rfl) d_D_next_7 (fun H locs hP hD hS => ?_)
  have hP : va_P D vwCl [(h0, .inr (0, [.long w, .int sk, .int pb, .int (nu + 1), .int so, .int fa, .int fb, .int ne, .int mk]))] H := hP
  have hD : va_D A [(h0, .inr (0, [.long w, .int sk, .int pb, .int (nu + 1), .int so, .int fa, .int fb, .int ne, .int mk]))] := hD
  refine lv_aload_n hx hb d_D_next_10 rfl (lv_at hl 0 rfl) ?_
  refine lv_aload_n hx hb d_D_next_11 rfl (lv_at hl 0 rfl) ?_
  refine cx_ci (wr := []) (wN := [(h0, .inr (0, [.long (bd_w1 (nu + 1) w), .int sk, .int pb, .int (nu + 1), .int so, .int fa, .int fb, .int ne, .int mk]))]) (va_runV (As := []) (rest := [.ref h0]) ⟨hx, hb, hml, hown, hw⟩ (c_D_nextSort l G D K H.size h0 w sk pb (nu + 1) so fa fb ne mk) (cwV 0 hw (cx_gV k_129 k_131 ks_D_nextSort k_2 k_132) rfl rfl rfl (by decide +kernel) ⟨Nat.le_of_ble_eq_true rfl, Nat.le_of_ble_eq_true rfl⟩) (cx_preV (q0 := 0) (ci := 0) hK hP hD hS hA hE rfl rfl [0] rfl rfl (by decide)) rfl rfl hl.1 rfl (lv_room (Nat.le_of_ble_eq_true rfl)) d_D_next_12 ⟨Nat.le_of_ble_eq_true rfl, Nat.le_of_ble_eq_true rfl⟩) hP hD hS hA [0] [] rfl rfl (by decide) (by decide) [0] rfl rfl (by decide) (fun H locs hP hD hS => ?_)
  refine va_put (D := D) (ci := 0) (v := .int (bd_so sk (nu + 1) w)) (ty := .int) (C := "BuildDrawer$Drawing") (T := TD) (N := 9) hx hb hw inD tyD tyD_ok nmD hown hK hP hD hS 0 rfl rfl 4 (by decide) (hw _ k_27) (fun _ h9 => h9) rfl (by decide +kernel) rfl rfl (Nat.le_of_ble_eq_true rfl) d_D_next_15 (fun H locs hP hD hS => ?_)
  have hP : va_P D vwCl [(h0, .inr (0, [.long (bd_w1 (nu + 1) w), .int sk, .int pb, .int (nu + 1), .int (bd_so sk (nu + 1) w), .int fa, .int fb, .int ne, .int mk]))] H := hP
  have hD : va_D A [(h0, .inr (0, [.long (bd_w1 (nu + 1) w), .int sk, .int pb, .int (nu + 1), .int (bd_so sk (nu + 1) w), .int fa, .int fb, .int ne, .int mk]))] := hD
  refine lv_aload_n hx hb d_D_next_18 rfl (lv_at hl 0 rfl) ?_
  refine lv_aload_n hx hb d_D_next_19 rfl (lv_at hl 0 rfl) ?_
  refine lv_sipush (v := 1000) hx hb d_D_next_20 (by decide) ?_
  refine cx_ci (wr := []) (wN := [(h0, .inr (0, [.long (bd_w (bd_w1 (nu + 1) w)), .int sk, .int pb, .int (nu + 1), .int (bd_so sk (nu + 1) w), .int fa, .int fb, .int ne, .int mk]))]) (va_runV (As := [.int 1000]) (rest := [.ref h0]) ⟨hx, hb, hml, hown, hw⟩ (c_D_chance l G D K H.size h0 (bd_w1 (nu + 1) w) sk pb (nu + 1) (bd_so sk (nu + 1) w) fa fb ne mk 1000) (cwV 1 hw (cx_gV k_116 k_118 ks_D_chance k_2 k_119) rfl rfl rfl (by decide +kernel) ⟨Nat.le_of_ble_eq_true rfl, Nat.le_of_ble_eq_true rfl⟩) (cx_preV (q0 := 0) (ci := 0) hK hP hD hS hA hE rfl rfl [0] rfl rfl (by decide)) rfl rfl hl.1 rfl (lv_room (Nat.le_of_ble_eq_true rfl)) d_D_next_23 ⟨Nat.le_of_ble_eq_true rfl, Nat.le_of_ble_eq_true rfl⟩) hP hD hS hA [0] [] rfl rfl (by decide) (by decide) [0] rfl rfl (by decide) (fun H locs hP hD hS => ?_)
  refine va_put (D := D) (ci := 0) (v := .int (bd_c (bd_w1 (nu + 1) w) 1000)) (ty := .int) (C := "BuildDrawer$Drawing") (T := TD) (N := 9) hx hb hw inD tyD tyD_ok nmD hown hK hP hD hS 0 rfl rfl 5 (by decide) (hw _ k_29) (fun _ h9 => h9) rfl (by decide +kernel) rfl rfl (Nat.le_of_ble_eq_true rfl) d_D_next_26 (fun H locs hP hD hS => ?_)
  have hP : va_P D vwCl [(h0, .inr (0, [.long (bd_w (bd_w1 (nu + 1) w)), .int sk, .int pb, .int (nu + 1), .int (bd_so sk (nu + 1) w), .int (bd_c (bd_w1 (nu + 1) w) 1000), .int fb, .int ne, .int mk]))] H := hP
  have hD : va_D A [(h0, .inr (0, [.long (bd_w (bd_w1 (nu + 1) w)), .int sk, .int pb, .int (nu + 1), .int (bd_so sk (nu + 1) w), .int (bd_c (bd_w1 (nu + 1) w) 1000), .int fb, .int ne, .int mk]))] := hD
  refine lv_aload_n hx hb d_D_next_29 rfl (lv_at hl 0 rfl) ?_
  refine lv_aload_n hx hb d_D_next_30 rfl (lv_at hl 0 rfl) ?_
  refine cx_ci (wr := []) (wN := [(h0, .inr (0, [.long (bd_w3 (bd_so sk (nu + 1) w) (bd_w (bd_w1 (nu + 1) w))), .int sk, .int pb, .int (nu + 1), .int (bd_so sk (nu + 1) w), .int (bd_c (bd_w1 (nu + 1) w) 1000), .int fb, .int ne, .int mk]))]) (va_runV (As := []) (rest := [.ref h0]) ⟨hx, hb, hml, hown, hw⟩ (c_D_nextB l G D K H.size h0 (bd_w (bd_w1 (nu + 1) w)) sk pb (nu + 1) (bd_so sk (nu + 1) w) (bd_c (bd_w1 (nu + 1) w) 1000) fb ne mk) (cwV 0 hw (cx_gV k_133 k_135 ks_D_nextB k_2 k_136) rfl rfl rfl (by decide +kernel) ⟨Nat.le_of_ble_eq_true rfl, Nat.le_of_ble_eq_true rfl⟩) (cx_preV (q0 := 0) (ci := 0) hK hP hD hS hA hE rfl rfl [0] rfl rfl (by decide)) rfl rfl hl.1 rfl (lv_room (Nat.le_of_ble_eq_true rfl)) d_D_next_31 ⟨Nat.le_of_ble_eq_true rfl, Nat.le_of_ble_eq_true rfl⟩) hP hD hS hA [0] [] rfl rfl (by decide) (by decide) [0] rfl rfl (by decide) (fun H locs hP hD hS => ?_)
  refine va_put (D := D) (ci := 0) (v := .int (bd_b (bd_so sk (nu + 1) w) pb (bd_w (bd_w1 (nu + 1) w)))) (ty := .int) (C := "BuildDrawer$Drawing") (T := TD) (N := 9) hx hb hw inD tyD tyD_ok nmD hown hK hP hD hS 0 rfl rfl 6 (by decide) (hw _ k_31) (fun _ h9 => h9) rfl (by decide +kernel) rfl rfl (Nat.le_of_ble_eq_true rfl) d_D_next_34 (fun H locs hP hD hS => ?_)
  have hP : va_P D vwCl [(h0, .inr (0, [.long (bd_w3 (bd_so sk (nu + 1) w) (bd_w (bd_w1 (nu + 1) w))), .int sk, .int pb, .int (nu + 1), .int (bd_so sk (nu + 1) w), .int (bd_c (bd_w1 (nu + 1) w) 1000), .int (bd_b (bd_so sk (nu + 1) w) pb (bd_w (bd_w1 (nu + 1) w))), .int ne, .int mk]))] H := hP
  have hD : va_D A [(h0, .inr (0, [.long (bd_w3 (bd_so sk (nu + 1) w) (bd_w (bd_w1 (nu + 1) w))), .int sk, .int pb, .int (nu + 1), .int (bd_so sk (nu + 1) w), .int (bd_c (bd_w1 (nu + 1) w) 1000), .int (bd_b (bd_so sk (nu + 1) w) pb (bd_w (bd_w1 (nu + 1) w))), .int ne, .int mk]))] := hD
  refine lv_aload_n hx hb d_D_next_37 rfl (lv_at hl 0 rfl) ?_
  refine lv_iconst (v := 1) hx hb d_D_next_38 (by decide) ?_
  refine lv_aload_n hx hb d_D_next_39 rfl (lv_at hl 0 rfl) ?_
  refine lv_bipush (v := 8) hx hb d_D_next_40 (by decide) ?_
  refine cx_ci (wr := []) (wN := [(h0, .inr (0, [.long (bd_w (bd_w3 (bd_so sk (nu + 1) w) (bd_w (bd_w1 (nu + 1) w)))), .int sk, .int pb, .int (nu + 1), .int (bd_so sk (nu + 1) w), .int (bd_c (bd_w1 (nu + 1) w) 1000), .int (bd_b (bd_so sk (nu + 1) w) pb (bd_w (bd_w1 (nu + 1) w))), .int ne, .int mk]))]) (va_runV (As := [.int 8]) (rest := [.int 1, .ref h0]) ⟨hx, hb, hml, hown, hw⟩ (c_D_chance l G D K H.size h0 (bd_w3 (bd_so sk (nu + 1) w) (bd_w (bd_w1 (nu + 1) w))) sk pb (nu + 1) (bd_so sk (nu + 1) w) (bd_c (bd_w1 (nu + 1) w) 1000) (bd_b (bd_so sk (nu + 1) w) pb (bd_w (bd_w1 (nu + 1) w))) ne mk 8) (cwV 1 hw (cx_gV k_116 k_118 ks_D_chance k_2 k_119) rfl rfl rfl (by decide +kernel) ⟨Nat.le_of_ble_eq_true rfl, Nat.le_of_ble_eq_true rfl⟩) (cx_preV (q0 := 0) (ci := 0) hK hP hD hS hA hE rfl rfl [0] rfl rfl (by decide)) rfl rfl hl.1 rfl (lv_room (Nat.le_of_ble_eq_true rfl)) d_D_next_42 ⟨Nat.le_of_ble_eq_true rfl, Nat.le_of_ble_eq_true rfl⟩) hP hD hS hA [0] [] rfl rfl (by decide) (by decide) [0] rfl rfl (by decide) (fun H locs hP hD hS => ?_)
  refine lv_ishl hx hb d_D_next_45 ?_
  refine va_put (D := D) (ci := 0) (v := .int (1 <<< ((bd_c (bd_w3 (bd_so sk (nu + 1) w) (bd_w (bd_w1 (nu + 1) w))) 8) &&& 31))) (ty := .int) (C := "BuildDrawer$Drawing") (T := TD) (N := 9) hx hb hw inD tyD tyD_ok nmD hown hK hP hD hS 0 rfl rfl 8 (by decide) (hw _ k_35) (fun _ h9 => h9) rfl (by decide +kernel) rfl rfl (Nat.le_of_ble_eq_true rfl) d_D_next_46 (fun H locs hP hD hS => ?_)
  have hP : va_P D vwCl [(h0, .inr (0, [.long (bd_w (bd_w3 (bd_so sk (nu + 1) w) (bd_w (bd_w1 (nu + 1) w)))), .int sk, .int pb, .int (nu + 1), .int (bd_so sk (nu + 1) w), .int (bd_c (bd_w1 (nu + 1) w) 1000), .int (bd_b (bd_so sk (nu + 1) w) pb (bd_w (bd_w1 (nu + 1) w))), .int ne, .int (1 <<< ((bd_c (bd_w3 (bd_so sk (nu + 1) w) (bd_w (bd_w1 (nu + 1) w))) 8) &&& 31))]))] H := hP
  have hD : va_D A [(h0, .inr (0, [.long (bd_w (bd_w3 (bd_so sk (nu + 1) w) (bd_w (bd_w1 (nu + 1) w)))), .int sk, .int pb, .int (nu + 1), .int (bd_so sk (nu + 1) w), .int (bd_c (bd_w1 (nu + 1) w) 1000), .int (bd_b (bd_so sk (nu + 1) w) pb (bd_w (bd_w1 (nu + 1) w))), .int ne, .int (1 <<< ((bd_c (bd_w3 (bd_so sk (nu + 1) w) (bd_w (bd_w1 (nu + 1) w))) 8) &&& 31))]))] := hD
  refine lv_aload_n hx hb d_D_next_49 rfl (lv_at hl 0 rfl) ?_
  refine lv_aload_n hx hb d_D_next_50 rfl (lv_at hl 0 rfl) ?_
  refine cx_ci (wr := []) (wN := [(h0, .inr (0, [.long (bd_w5 (nu + 1) (bd_w (bd_w3 (bd_so sk (nu + 1) w) (bd_w (bd_w1 (nu + 1) w))))), .int sk, .int pb, .int (nu + 1), .int (bd_so sk (nu + 1) w), .int (bd_c (bd_w1 (nu + 1) w) 1000), .int (bd_b (bd_so sk (nu + 1) w) pb (bd_w (bd_w1 (nu + 1) w))), .int ne, .int (1 <<< ((bd_c (bd_w3 (bd_so sk (nu + 1) w) (bd_w (bd_w1 (nu + 1) w))) 8) &&& 31))]))]) (va_runV (As := []) (rest := [.ref h0]) ⟨hx, hb, hml, hown, hw⟩ (c_D_nextNeed l G D K H.size h0 (bd_w (bd_w3 (bd_so sk (nu + 1) w) (bd_w (bd_w1 (nu + 1) w)))) sk pb (nu + 1) (bd_so sk (nu + 1) w) (bd_c (bd_w1 (nu + 1) w) 1000) (bd_b (bd_so sk (nu + 1) w) pb (bd_w (bd_w1 (nu + 1) w))) ne (1 <<< ((bd_c (bd_w3 (bd_so sk (nu + 1) w) (bd_w (bd_w1 (nu + 1) w))) 8) &&& 31))) (cwV 0 hw (cx_gV k_141 k_143 ks_D_nextNeed k_2 k_144) rfl rfl rfl (by decide +kernel) ⟨Nat.le_of_ble_eq_true rfl, Nat.le_of_ble_eq_true rfl⟩) (cx_preV (q0 := 0) (ci := 0) hK hP hD hS hA hE rfl rfl [0] rfl rfl (by decide)) rfl rfl hl.1 rfl (lv_room (Nat.le_of_ble_eq_true rfl)) d_D_next_51 ⟨Nat.le_of_ble_eq_true rfl, Nat.le_of_ble_eq_true rfl⟩) hP hD hS hA [0] [] rfl rfl (by decide) (by decide) [0] rfl rfl (by decide) (fun H locs hP hD hS => ?_)
  refine va_put (D := D) (ci := 0) (v := .int (bd_ne (nu + 1) (bd_w (bd_w3 (bd_so sk (nu + 1) w) (bd_w (bd_w1 (nu + 1) w)))))) (ty := .int) (C := "BuildDrawer$Drawing") (T := TD) (N := 9) hx hb hw inD tyD tyD_ok nmD hown hK hP hD hS 0 rfl rfl 7 (by decide) (hw _ k_33) (fun _ h9 => h9) rfl (by decide +kernel) rfl rfl (Nat.le_of_ble_eq_true rfl) d_D_next_54 (fun H locs hP hD hS => ?_)
  have hP : va_P D vwCl [(h0, .inr (0, [.long (bd_w5 (nu + 1) (bd_w (bd_w3 (bd_so sk (nu + 1) w) (bd_w (bd_w1 (nu + 1) w))))), .int sk, .int pb, .int (nu + 1), .int (bd_so sk (nu + 1) w), .int (bd_c (bd_w1 (nu + 1) w) 1000), .int (bd_b (bd_so sk (nu + 1) w) pb (bd_w (bd_w1 (nu + 1) w))), .int (bd_ne (nu + 1) (bd_w (bd_w3 (bd_so sk (nu + 1) w) (bd_w (bd_w1 (nu + 1) w))))), .int (1 <<< ((bd_c (bd_w3 (bd_so sk (nu + 1) w) (bd_w (bd_w1 (nu + 1) w))) 8) &&& 31))]))] H := hP
  have hD : va_D A [(h0, .inr (0, [.long (bd_w5 (nu + 1) (bd_w (bd_w3 (bd_so sk (nu + 1) w) (bd_w (bd_w1 (nu + 1) w))))), .int sk, .int pb, .int (nu + 1), .int (bd_so sk (nu + 1) w), .int (bd_c (bd_w1 (nu + 1) w) 1000), .int (bd_b (bd_so sk (nu + 1) w) pb (bd_w (bd_w1 (nu + 1) w))), .int (bd_ne (nu + 1) (bd_w (bd_w3 (bd_so sk (nu + 1) w) (bd_w (bd_w1 (nu + 1) w))))), .int (1 <<< ((bd_c (bd_w3 (bd_so sk (nu + 1) w) (bd_w (bd_w1 (nu + 1) w))) 8) &&& 31))]))] := hD
  exact cx_vret hx hb hr hlocks hK hP hD hS d_D_next_57 (rfl)
end
section
def bd_like (so fa fb ne mk so2 fa2 fb2 ne2 mk2 : Int32) : Int32 := if so = so2 then if fa = fa2 then if fb = fb2 then if ne = ne2 then if mk = mk2 then 1 else 0 else 0 else 0 else 0 else 0
set_option maxHeartbeats 4000000 in
set_option maxRecDepth 100000 in
theorem c_D_begin (l : Launch) (G : cx_G) (D : va_G) (K : cx_KT) (sz : Nat) (h0 : Nat) (w : Int64) (sk : Int32) (pb : Int32) (nu : Int32) (so : Int32) (fa : Int32) (fb : Int32) (ne : Int32) (mk : Int32) (seed : Int64) (kk : Nat) (size : Int32) (hkk : kk < 8) : Met l y_D_begin w_D_begin ({ frames := 1, cells := 0, slots := 0, locals := 22 }) (cx_Pc G D (cx_ty K) [(h0, .inr (0, [.long w, .int sk, .int pb, .int nu, .int so, .int fa, .int fb, .int ne, .int mk]))] sz [.ref h0, .long seed, .int (nI kk), .int size]) (cx_Qv D (cx_ty K) [(h0, .inr (0, [.long (bd_wb seed (nI kk) size), .int (bd_sk kk), .int (bd_pb seed (nI kk) size), .int (-1), .int so, .int fa, .int fb, .int ne, .int mk]))] (va_A [(h0, .inr (0, [.long w, .int sk, .int pb, .int nu, .int so, .int fa, .int fb, .int ne, .int mk]))] sz)) 0 0 (va_A [(h0, .inr (0, [.long w, .int sk, .int pb, .int nu, .int so, .int fa, .int fb, .int ne, .int mk]))] sz) := by
  refine Met.ofW (cc := prog_2_method_2_code) (maxL := 5) (ret := none) (by decide) rfl ?_
  intro p e s m args below meth c s₁ B hml hv
  obtain ⟨rfl, hsz, hP, hK, hD0, hE⟩ := hv
  have hx := B.exec
  have hb := B.bytes
  have hr := B.returns
  have hts := atoms_spec (ws := w_D_begin) B.pre
  have hw : ∀ w ∈ cw, w.before _ s = true := fun w h => hts w (List.mem_cons_of_mem _ h)
  have hown : s.vm.findClass "BuildDrawer$Drawing" = some m.cls := findClass_of_methodNamed B.named
  have hlocks := B.notSynchronized
  subst hsz
  have hD := hD0.self (sz := s.heap.size)
  generalize hAe : va_A [(h0, .inr (0, [.long w, .int sk, .int pb, .int nu, .int so, .int fa, .int fb, .int ne, .int mk]))] s.heap.size = A at hD hE ⊢
  have hA : ∀ q : Nat, s.heap.size ≤ q → A q := fun q h => by rw [← hAe]; exact Or.inr h
  have hS : va_S A s.heap s.heap [] := va_S.rf
  have hl := lv_entry ([.ref h0, .long seed, .int (nI kk), .int size]) (n := 5) (Nat.le_of_ble_eq_true rfl)
  rw [lg_entry_eq]
  generalize (lg_sl ([.ref h0, .long seed, .int (nI kk), .int size]) ++ List.replicate (5 - (lg_sl ([.ref h0, .long seed, .int (nI kk), .int size])).length) Slot.unset).toArray = ls at hl ⊢
  have hl : lv_has ls 5 [(0, .ref h0), (1, .long seed), (3, .int (nI kk)), (4, .int size)] := hl
  refine lv_aload_n hx hb d_D_begin_0 rfl (lv_at hl 0 rfl) ?_
  refine lv_lload_n hx hb d_D_begin_1 rfl (lv_at hl 1 rfl) ?_
  refine lv_iload_n hx hb d_D_begin_2 rfl (lv_at hl 2 rfl) ?_
  refine lv_i2l (v := (nI kk).toInt64) hx hb d_D_begin_3 (rfl) ?_
  refine lv_lxor hx hb d_D_begin_4 ?_
  refine lv_ldc2 (v := 2862933555777941757) hx hb hown (hw _ k_113) d_D_begin_5 ?_
  refine lv_lmul hx hb d_D_begin_8 ?_
  refine lv_iload hx hb d_D_begin_9 (lv_at hl 3 rfl) ?_
  refine lv_i2l (v := size.toInt64) hx hb d_D_begin_11 (rfl) ?_
  refine lv_ladd hx hb d_D_begin_12 ?_
  refine cx_tl (y := bd_w0 seed (nI kk) size) (rfl) ?_
  refine va_put (D := D) (ci := 0) (v := .long (bd_w0 seed (nI kk) size)) (ty := .long) (C := "BuildDrawer$Drawing") (T := TD) (N := 9) hx hb hw inD tyD tyD_ok nmD hown hK hP hD hS 0 rfl rfl 0 (by decide) (hw _ k_23) (fun _ h9 => h9) rfl (by decide +kernel) rfl rfl (Nat.le_of_ble_eq_true rfl) d_D_begin_13 (fun H locs hP hD hS => ?_)
  have hP : va_P D vwCl [(h0, .inr (0, [.long (bd_w0 seed (nI kk) size), .int sk, .int pb, .int nu, .int so, .int fa, .int fb, .int ne, .int mk]))] H := hP
  have hD : va_D A [(h0, .inr (0, [.long (bd_w0 seed (nI kk) size), .int sk, .int pb, .int nu, .int so, .int fa, .int fb, .int ne, .int mk]))] := hD
  refine lv_aload_n hx hb d_D_begin_16 rfl (lv_at hl 0 rfl) ?_
  refine lv_iload_n hx hb d_D_begin_17 rfl (lv_at hl 2 rfl) ?_
  refine lv_if_lt (tgt := 37) hx hb d_D_begin_18 (by decide) (fun r_18 => ?_) (fun r_18 => ?_)
  · have c_18 := (nI_ltI (a := kk) (b := 0) (by omega) (by omega)).mp r_18
    omega
  · have c_18 := mt (nI_ltI (a := kk) (b := 0) (by omega) (by omega)).mpr r_18
    refine lv_iload_n hx hb d_D_begin_21 rfl (lv_at hl 2 rfl) ?_
    refine va_getsN hx hb hE.2.1.1 hS hown (hE.nw kn_114) (fun _ h9 => h9) d_D_begin_22 ?_
    refine va_tlen (v := 8) hx hb hE.2.1.2 hS rfl d_D_begin_25 ?_
    refine lv_icmp_ge (tgt := 37) hx hb d_D_begin_26 (by decide) (fun r_26 => ?_) (fun r_26 => ?_)
    · have c_26 := (nI_leI (a := 8) (b := kk) (by omega) (by omega)).mp r_26
      omega
    · have c_26 := mt (nI_leI (a := 8) (b := kk) (by omega) (by omega)).mpr r_26
      refine va_getsN hx hb hE.2.1.1 hS hown (hE.nw kn_114) (fun _ h9 => h9) d_D_begin_29 ?_
      refine lv_iload_n hx hb d_D_begin_32 rfl (lv_at hl 2 rfl) ?_
      refine va_ti (v := .int (bd_sk kk)) hx hb hE.2.1.2 hS (vp_in_nI (n := kk) (by omega) (by omega)) (by rw [nI_clamp (by omega)]) d_D_begin_33 ?_
      refine lv_goto (tgt := 38) hx hb d_D_begin_34 (by decide) ?_
      refine va_put (D := D) (ci := 0) (v := .int (bd_sk kk)) (ty := .int) (C := "BuildDrawer$Drawing") (T := TD) (N := 9) hx hb hw inD tyD tyD_ok nmD hown hK hP hD hS 0 rfl rfl 1 (by decide) (hw _ k_24) (fun _ h9 => h9) rfl (by decide +kernel) rfl rfl (Nat.le_of_ble_eq_true rfl) d_D_begin_38 (fun H locs hP hD hS => ?_)
      have hP : va_P D vwCl [(h0, .inr (0, [.long (bd_w0 seed (nI kk) size), .int (bd_sk kk), .int pb, .int nu, .int so, .int fa, .int fb, .int ne, .int mk]))] H := hP
      have hD : va_D A [(h0, .inr (0, [.long (bd_w0 seed (nI kk) size), .int (bd_sk kk), .int pb, .int nu, .int so, .int fa, .int fb, .int ne, .int mk]))] := hD
      refine lv_aload_n hx hb d_D_begin_41 rfl (lv_at hl 0 rfl) ?_
      refine lv_iload_n hx hb d_D_begin_42 rfl (lv_at hl 2 rfl) ?_
      refine lv_iconst (v := 1) hx hb d_D_begin_43 (by decide) ?_
      refine lv_icmp_ne (tgt := 59) hx hb d_D_begin_44 (by decide) (fun r_44 => ?_) (fun r_44 => ?_)
      · have c_44 := r_44
        refine lv_iconst (v := 0) hx hb d_D_begin_59 (by decide) ?_
        refine va_put (D := D) (ci := 0) (v := .int 0) (ty := .int) (C := "BuildDrawer$Drawing") (T := TD) (N := 9) hx hb hw inD tyD tyD_ok nmD hown hK hP hD hS 0 rfl rfl 2 (by decide) (hw _ k_25) (fun _ h9 => h9) rfl (by decide +kernel) rfl rfl (Nat.le_of_ble_eq_true rfl) d_D_begin_60 (fun H locs hP hD hS => ?_)
        have hP : va_P D vwCl [(h0, .inr (0, [.long (bd_w0 seed (nI kk) size), .int (bd_sk kk), .int 0, .int nu, .int so, .int fa, .int fb, .int ne, .int mk]))] H := hP
        have hD : va_D A [(h0, .inr (0, [.long (bd_w0 seed (nI kk) size), .int (bd_sk kk), .int 0, .int nu, .int so, .int fa, .int fb, .int ne, .int mk]))] := hD
        refine lv_aload_n hx hb d_D_begin_63 rfl (lv_at hl 0 rfl) ?_
        refine lv_iconst (v := (-1)) hx hb d_D_begin_64 (by decide) ?_
        refine va_put (D := D) (ci := 0) (v := .int (-1)) (ty := .int) (C := "BuildDrawer$Drawing") (T := TD) (N := 9) hx hb hw inD tyD tyD_ok nmD hown hK hP hD hS 0 rfl rfl 3 (by decide) (hw _ k_26) (fun _ h9 => h9) rfl (by decide +kernel) rfl rfl (Nat.le_of_ble_eq_true rfl) d_D_begin_65 (fun H locs hP hD hS => ?_)
        have hP : va_P D vwCl [(h0, .inr (0, [.long (bd_w0 seed (nI kk) size), .int (bd_sk kk), .int 0, .int (-1), .int so, .int fa, .int fb, .int ne, .int mk]))] H := hP
        have hD : va_D A [(h0, .inr (0, [.long (bd_w0 seed (nI kk) size), .int (bd_sk kk), .int 0, .int (-1), .int so, .int fa, .int fb, .int ne, .int mk]))] := hD
        exact cx_vret hx hb hr hlocks hK hP hD hS d_D_begin_68 (by simp only [bd_wb, bd_pb, if_neg r_44])
      · have c_44 := r_44
        refine lv_aload_n hx hb d_D_begin_47 rfl (lv_at hl 0 rfl) ?_
        refine lv_bipush (v := 16) hx hb d_D_begin_48 (by decide) ?_
        refine cx_ci (wr := []) (wN := [(h0, .inr (0, [.long (bd_w (bd_w0 seed (nI kk) size)), .int (bd_sk kk), .int pb, .int nu, .int so, .int fa, .int fb, .int ne, .int mk]))]) (va_runV (As := [.int 16]) (rest := [.ref h0]) ⟨hx, hb, hml, hown, hw⟩ (c_D_chance l G D K H.size h0 (bd_w0 seed (nI kk) size) (bd_sk kk) pb nu so fa fb ne mk 16) (cwV 1 hw (cx_gV k_116 k_118 ks_D_chance k_2 k_119) rfl rfl rfl (by decide +kernel) ⟨Nat.le_of_ble_eq_true rfl, Nat.le_of_ble_eq_true rfl⟩) (cx_preV (q0 := 0) (ci := 0) hK hP hD hS hA hE rfl rfl [0] rfl rfl (by decide)) rfl rfl hl.1 rfl (lv_room (Nat.le_of_ble_eq_true rfl)) d_D_begin_50 ⟨Nat.le_of_ble_eq_true rfl, Nat.le_of_ble_eq_true rfl⟩) hP hD hS hA [0] [] rfl rfl (by decide) (by decide) [0] rfl rfl (by decide) (fun H locs hP hD hS => ?_)
        refine cx_ci (wr := [(h0, .inr (0, [.long (bd_w (bd_w0 seed (nI kk) size)), .int (bd_sk kk), .int pb, .int nu, .int so, .int fa, .int fb, .int ne, .int mk]))]) (wN := [(h0, .inr (0, [.long (bd_w (bd_w0 seed (nI kk) size)), .int (bd_sk kk), .int pb, .int nu, .int so, .int fa, .int fb, .int ne, .int mk]))]) (va_runS (As := [.int (bd_c (bd_w0 seed (nI kk) size) 16)]) (rest := [.ref h0]) ⟨hx, hb, hml, hown, hw⟩ (c_D_bitOrNone l G D K H.size (bd_c (bd_w0 seed (nI kk) size) 16)) (va_cwS 1 hw (cx_gS k_122 k_123 k_2 k_124) rfl rfl rfl (by decide +kernel) ⟨Nat.le_of_ble_eq_true rfl, Nat.le_of_ble_eq_true rfl⟩) (cx_pre hK hP hD hS hA hE [] rfl rfl (by decide)) rfl rfl hl.1 rfl (lv_room (Nat.le_of_ble_eq_true rfl)) d_D_begin_53 ⟨Nat.le_of_ble_eq_true rfl, Nat.le_of_ble_eq_true rfl⟩) hP hD hS hA [] [0] rfl rfl (by decide) (by decide) [0] rfl rfl (by decide) (fun H locs hP hD hS => ?_)
        refine lv_goto (tgt := 60) hx hb d_D_begin_56 (by decide) ?_
        refine va_put (D := D) (ci := 0) (v := .int (bd_bit (bd_c (bd_w0 seed (nI kk) size) 16))) (ty := .int) (C := "BuildDrawer$Drawing") (T := TD) (N := 9) hx hb hw inD tyD tyD_ok nmD hown hK hP hD hS 0 rfl rfl 2 (by decide) (hw _ k_25) (fun _ h9 => h9) rfl (by decide +kernel) rfl rfl (Nat.le_of_ble_eq_true rfl) d_D_begin_60 (fun H locs hP hD hS => ?_)
        have hP : va_P D vwCl [(h0, .inr (0, [.long (bd_w (bd_w0 seed (nI kk) size)), .int (bd_sk kk), .int (bd_bit (bd_c (bd_w0 seed (nI kk) size) 16)), .int nu, .int so, .int fa, .int fb, .int ne, .int mk]))] H := hP
        have hD : va_D A [(h0, .inr (0, [.long (bd_w (bd_w0 seed (nI kk) size)), .int (bd_sk kk), .int (bd_bit (bd_c (bd_w0 seed (nI kk) size) 16)), .int nu, .int so, .int fa, .int fb, .int ne, .int mk]))] := hD
        refine lv_aload_n hx hb d_D_begin_63 rfl (lv_at hl 0 rfl) ?_
        refine lv_iconst (v := (-1)) hx hb d_D_begin_64 (by decide) ?_
        refine va_put (D := D) (ci := 0) (v := .int (-1)) (ty := .int) (C := "BuildDrawer$Drawing") (T := TD) (N := 9) hx hb hw inD tyD tyD_ok nmD hown hK hP hD hS 0 rfl rfl 3 (by decide) (hw _ k_26) (fun _ h9 => h9) rfl (by decide +kernel) rfl rfl (Nat.le_of_ble_eq_true rfl) d_D_begin_65 (fun H locs hP hD hS => ?_)
        have hP : va_P D vwCl [(h0, .inr (0, [.long (bd_w (bd_w0 seed (nI kk) size)), .int (bd_sk kk), .int (bd_bit (bd_c (bd_w0 seed (nI kk) size) 16)), .int (-1), .int so, .int fa, .int fb, .int ne, .int mk]))] H := hP
        have hD : va_D A [(h0, .inr (0, [.long (bd_w (bd_w0 seed (nI kk) size)), .int (bd_sk kk), .int (bd_bit (bd_c (bd_w0 seed (nI kk) size) 16)), .int (-1), .int so, .int fa, .int fb, .int ne, .int mk]))] := hD
        exact cx_vret hx hb hr hlocks hK hP hD hS d_D_begin_68 (by simp only [bd_wb, bd_pb, if_pos r_44])
set_option maxHeartbeats 4000000 in
set_option maxRecDepth 100000 in
theorem c_D_isAtTheLikeOf (l : Launch) (G : cx_G) (D : va_G) (K : cx_KT) (sz : Nat) (h0 : Nat) (h1 : Nat) (w : Int64) (sk : Int32) (pb : Int32) (nu : Int32) (so : Int32) (fa : Int32) (fb : Int32) (ne : Int32) (mk : Int32) (w2 : Int64) (sk2 : Int32) (pb2 : Int32) (nu2 : Int32) (so2 : Int32) (fa2 : Int32) (fb2 : Int32) (ne2 : Int32) (mk2 : Int32)  : Met l y_D_isAtTheLikeOf w_D_isAtTheLikeOf ({ frames := 0, cells := 0, slots := 0, locals := 0 }) (cx_Pc G D (cx_ty K) [(h0, .inr (0, [.long w, .int sk, .int pb, .int nu, .int so, .int fa, .int fb, .int ne, .int mk])), (h1, .inr (0, [.long w2, .int sk2, .int pb2, .int nu2, .int so2, .int fa2, .int fb2, .int ne2, .int mk2]))] sz [.ref h0, .ref h1]) (cx_Qi (bd_like so fa fb ne mk so2 fa2 fb2 ne2 mk2) D (cx_ty K) [(h0, .inr (0, [.long w, .int sk, .int pb, .int nu, .int so, .int fa, .int fb, .int ne, .int mk])), (h1, .inr (0, [.long w2, .int sk2, .int pb2, .int nu2, .int so2, .int fa2, .int fb2, .int ne2, .int mk2]))] (va_A [(h0, .inr (0, [.long w, .int sk, .int pb, .int nu, .int so, .int fa, .int fb, .int ne, .int mk])), (h1, .inr (0, [.long w2, .int sk2, .int pb2, .int nu2, .int so2, .int fa2, .int fb2, .int ne2, .int mk2]))] sz)) 0 0 (va_A [(h0, .inr (0, [.long w, .int sk, .int pb, .int nu, .int so, .int fa, .int fb, .int ne, .int mk])), (h1, .inr (0, [.long w2, .int sk2, .int pb2, .int nu2, .int so2, .int fa2, .int fb2, .int ne2, .int mk2]))] sz) := by
  refine Met.ofW (cc := prog_2_method_4_code) (maxL := 2) (ret := (some .boolean)) (by decide) rfl ?_
  intro p e s m args below meth c s₁ B hml hv
  obtain ⟨rfl, hsz, hP, hK, hD0, hE⟩ := hv
  have hx := B.exec
  have hb := B.bytes
  have hr := B.returns
  have hts := atoms_spec (ws := w_D_isAtTheLikeOf) B.pre
  have hw : ∀ w ∈ cw, w.before _ s = true := fun w h => hts w (List.mem_cons_of_mem _ h)
  have hown : s.vm.findClass "BuildDrawer$Drawing" = some m.cls := findClass_of_methodNamed B.named
  have hlocks := B.notSynchronized
  subst hsz
  have hD := hD0.self (sz := s.heap.size)
  generalize hAe : va_A [(h0, .inr (0, [.long w, .int sk, .int pb, .int nu, .int so, .int fa, .int fb, .int ne, .int mk])), (h1, .inr (0, [.long w2, .int sk2, .int pb2, .int nu2, .int so2, .int fa2, .int fb2, .int ne2, .int mk2]))] s.heap.size = A at hD hE ⊢
  have hA : ∀ q : Nat, s.heap.size ≤ q → A q := fun q h => by rw [← hAe]; exact Or.inr h
  have hS : va_S A s.heap s.heap [] := va_S.rf
  have hl := lv_entry ([.ref h0, .ref h1]) (n := 2) (Nat.le_of_ble_eq_true rfl)
  rw [lg_entry_eq]
  generalize (lg_sl ([.ref h0, .ref h1]) ++ List.replicate (2 - (lg_sl ([.ref h0, .ref h1])).length) Slot.unset).toArray = ls at hl ⊢
  have hl : lv_has ls 2 [(0, .ref h0), (1, .ref h1)] := hl
  refine lv_aload_n hx hb d_D_isAtTheLikeOf_0 rfl (lv_at hl 1 rfl) ?_
  refine lv_ifnull hx hb d_D_isAtTheLikeOf_1 ?_
  refine lv_aload_n hx hb d_D_isAtTheLikeOf_4 rfl (lv_at hl 0 rfl) ?_
  refine va_get (D := D) (ci := 0) (v := .int so) (C := "BuildDrawer$Drawing") (T := TD) (N := 9) hx hb hw inD hown hK hP 0 rfl rfl 4 (by decide) (hw _ k_27) (fun _ h9 => h9) rfl d_D_isAtTheLikeOf_5 ?_
  refine lv_aload_n hx hb d_D_isAtTheLikeOf_8 rfl (lv_at hl 1 rfl) ?_
  refine va_get (D := D) (ci := 0) (v := .int so2) (C := "BuildDrawer$Drawing") (T := TD) (N := 9) hx hb hw inD hown hK hP 1 rfl rfl 4 (by decide) (hw _ k_27) (fun _ h9 => h9) rfl d_D_isAtTheLikeOf_9 ?_
  refine lv_icmp_ne (tgt := 63) hx hb d_D_isAtTheLikeOf_12 (by decide) (fun r_12 => ?_) (fun r_12 => ?_)
  · have c_12 := r_12
    refine lv_iconst (v := 0) hx hb d_D_isAtTheLikeOf_63 (by decide) ?_
    exact cx_zret hx hb hr hlocks hK hP hD hS d_D_isAtTheLikeOf_64 (rfl) (by simp only [bd_like, if_neg r_12]) (rfl)
  · have c_12 := r_12
    refine lv_aload_n hx hb d_D_isAtTheLikeOf_15 rfl (lv_at hl 0 rfl) ?_
    refine va_get (D := D) (ci := 0) (v := .int fa) (C := "BuildDrawer$Drawing") (T := TD) (N := 9) hx hb hw inD hown hK hP 0 rfl rfl 5 (by decide) (hw _ k_29) (fun _ h9 => h9) rfl d_D_isAtTheLikeOf_16 ?_
    refine lv_aload_n hx hb d_D_isAtTheLikeOf_19 rfl (lv_at hl 1 rfl) ?_
    refine va_get (D := D) (ci := 0) (v := .int fa2) (C := "BuildDrawer$Drawing") (T := TD) (N := 9) hx hb hw inD hown hK hP 1 rfl rfl 5 (by decide) (hw _ k_29) (fun _ h9 => h9) rfl d_D_isAtTheLikeOf_20 ?_
    refine lv_icmp_ne (tgt := 63) hx hb d_D_isAtTheLikeOf_23 (by decide) (fun r_23 => ?_) (fun r_23 => ?_)
    · have c_23 := r_23
      refine lv_iconst (v := 0) hx hb d_D_isAtTheLikeOf_63 (by decide) ?_
      exact cx_zret hx hb hr hlocks hK hP hD hS d_D_isAtTheLikeOf_64 (rfl) (by simp only [bd_like, if_pos r_12, if_neg r_23]) (rfl)
    · have c_23 := r_23
      refine lv_aload_n hx hb d_D_isAtTheLikeOf_26 rfl (lv_at hl 0 rfl) ?_
      refine va_get (D := D) (ci := 0) (v := .int fb) (C := "BuildDrawer$Drawing") (T := TD) (N := 9) hx hb hw inD hown hK hP 0 rfl rfl 6 (by decide) (hw _ k_31) (fun _ h9 => h9) rfl d_D_isAtTheLikeOf_27 ?_
      refine lv_aload_n hx hb d_D_isAtTheLikeOf_30 rfl (lv_at hl 1 rfl) ?_
      refine va_get (D := D) (ci := 0) (v := .int fb2) (C := "BuildDrawer$Drawing") (T := TD) (N := 9) hx hb hw inD hown hK hP 1 rfl rfl 6 (by decide) (hw _ k_31) (fun _ h9 => h9) rfl d_D_isAtTheLikeOf_31 ?_
      refine lv_icmp_ne (tgt := 63) hx hb d_D_isAtTheLikeOf_34 (by decide) (fun r_34 => ?_) (fun r_34 => ?_)
      · have c_34 := r_34
        refine lv_iconst (v := 0) hx hb d_D_isAtTheLikeOf_63 (by decide) ?_
        exact cx_zret hx hb hr hlocks hK hP hD hS d_D_isAtTheLikeOf_64 (rfl) (by simp only [bd_like, if_pos r_12, if_pos r_23, if_neg r_34]) (rfl)
      · have c_34 := r_34
        refine lv_aload_n hx hb d_D_isAtTheLikeOf_37 rfl (lv_at hl 0 rfl) ?_
        refine va_get (D := D) (ci := 0) (v := .int ne) (C := "BuildDrawer$Drawing") (T := TD) (N := 9) hx hb hw inD hown hK hP 0 rfl rfl 7 (by decide) (hw _ k_33) (fun _ h9 => h9) rfl d_D_isAtTheLikeOf_38 ?_
        refine lv_aload_n hx hb d_D_isAtTheLikeOf_41 rfl (lv_at hl 1 rfl) ?_
        refine va_get (D := D) (ci := 0) (v := .int ne2) (C := "BuildDrawer$Drawing") (T := TD) (N := 9) hx hb hw inD hown hK hP 1 rfl rfl 7 (by decide) (hw _ k_33) (fun _ h9 => h9) rfl d_D_isAtTheLikeOf_42 ?_
        refine lv_icmp_ne (tgt := 63) hx hb d_D_isAtTheLikeOf_45 (by decide) (fun r_45 => ?_) (fun r_45 => ?_)
        · have c_45 := r_45
          refine lv_iconst (v := 0) hx hb d_D_isAtTheLikeOf_63 (by decide) ?_
          exact cx_zret hx hb hr hlocks hK hP hD hS d_D_isAtTheLikeOf_64 (rfl) (by simp only [bd_like, if_pos r_12, if_pos r_23, if_pos r_34, if_neg r_45]) (rfl)
        · have c_45 := r_45
          refine lv_aload_n hx hb d_D_isAtTheLikeOf_48 rfl (lv_at hl 0 rfl) ?_
          refine va_get (D := D) (ci := 0) (v := .int mk) (C := "BuildDrawer$Drawing") (T := TD) (N := 9) hx hb hw inD hown hK hP 0 rfl rfl 8 (by decide) (hw _ k_35) (fun _ h9 => h9) rfl d_D_isAtTheLikeOf_49 ?_
          refine lv_aload_n hx hb d_D_isAtTheLikeOf_52 rfl (lv_at hl 1 rfl) ?_
          refine va_get (D := D) (ci := 0) (v := .int mk2) (C := "BuildDrawer$Drawing") (T := TD) (N := 9) hx hb hw inD hown hK hP 1 rfl rfl 8 (by decide) (hw _ k_35) (fun _ h9 => h9) rfl d_D_isAtTheLikeOf_53 ?_
          refine lv_icmp_ne (tgt := 63) hx hb d_D_isAtTheLikeOf_56 (by decide) (fun r_56 => ?_) (fun r_56 => ?_)
          · have c_56 := r_56
            refine lv_iconst (v := 0) hx hb d_D_isAtTheLikeOf_63 (by decide) ?_
            exact cx_zret hx hb hr hlocks hK hP hD hS d_D_isAtTheLikeOf_64 (rfl) (by simp only [bd_like, if_pos r_12, if_pos r_23, if_pos r_34, if_pos r_45, if_neg r_56]) (rfl)
          · have c_56 := r_56
            refine lv_iconst (v := 1) hx hb d_D_isAtTheLikeOf_59 (by decide) ?_
            refine lv_goto (tgt := 64) hx hb d_D_isAtTheLikeOf_60 (by decide) ?_
            exact cx_zret hx hb hr hlocks hK hP hD hS d_D_isAtTheLikeOf_64 (rfl) (by simp only [bd_like, if_pos r_12, if_pos r_23, if_pos r_34, if_pos r_45, if_pos r_56]) (rfl)
set_option maxHeartbeats 4000000 in
set_option maxRecDepth 100000 in
theorem c_D_init (l : Launch) (G : cx_G) (D : va_G) (K : cx_KT) (sz : Nat) (h0 : Nat) (w : Int64) (sk : Int32) (pb : Int32) (nu : Int32) (so : Int32) (fa : Int32) (fb : Int32) (ne : Int32) (mk : Int32)  : Met l y_D_init w_D_init ({ frames := 1, cells := 0, slots := 0, locals := 20 }) (cx_Pc G D (cx_ty K) [(h0, .inr (0, [.long w, .int sk, .int pb, .int nu, .int so, .int fa, .int fb, .int ne, .int mk]))] sz [.ref h0]) (cx_Qv D (cx_ty K) [(h0, .inr (0, [.long 0, .int 0, .int 0, .int (-1), .int 0, .int 0, .int 0, .int (-1), .int 0]))] (va_A [(h0, .inr (0, [.long w, .int sk, .int pb, .int nu, .int so, .int fa, .int fb, .int ne, .int mk]))] sz)) 0 0 (va_A [(h0, .inr (0, [.long w, .int sk, .int pb, .int nu, .int so, .int fa, .int fb, .int ne, .int mk]))] sz) := by
  refine Met.ofW (cc := prog_2_method_1_code) (maxL := 1) (ret := none) (by decide) rfl ?_
  intro p e s m args below meth c s₁ B hml hv
  obtain ⟨rfl, hsz, hP, hK, hD0, hE⟩ := hv
  have hx := B.exec
  have hb := B.bytes
  have hr := B.returns
  have hts := atoms_spec (ws := w_D_init) B.pre
  have hw : ∀ w ∈ cw, w.before _ s = true := fun w h => hts w (List.mem_cons_of_mem _ h)
  have hown : s.vm.findClass "BuildDrawer$Drawing" = some m.cls := findClass_of_methodNamed B.named
  have hlocks := B.notSynchronized
  have hin : meth.name = "<init>" := (name_of_methodNamed B.named B.method).1
  subst hsz
  have hD := hD0.self (sz := s.heap.size)
  generalize hAe : va_A [(h0, .inr (0, [.long w, .int sk, .int pb, .int nu, .int so, .int fa, .int fb, .int ne, .int mk]))] s.heap.size = A at hD hE ⊢
  have hA : ∀ q : Nat, s.heap.size ≤ q → A q := fun q h => by rw [← hAe]; exact Or.inr h
  have hS : va_S A s.heap s.heap [] := va_S.rf
  have hl := lv_entry ([.ref h0]) (n := 1) (Nat.le_of_ble_eq_true rfl)
  rw [lg_entry_eq]
  generalize (lg_sl ([.ref h0]) ++ List.replicate (1 - (lg_sl ([.ref h0])).length) Slot.unset).toArray = ls at hl ⊢
  have hl : lv_has ls 1 [(0, .ref h0)] := hl
  refine lv_aload_n hx hb d_D_init_0 rfl (lv_at hl 0 rfl) ?_
  refine W.objInit hx hb hown (hw _ k_22) (hw _ k_15) (hw _ k_16) rfl (by rw [hml]; exact hl.1) rfl d_D_init_1 (Nat.le_of_ble_eq_true rfl) (Nat.le_of_ble_eq_true rfl) ?_
  refine W.eq (g2 := F0 m 4 ls []) rfl ?_
  refine lv_aload_n hx hb d_D_init_4 rfl (lv_at hl 0 rfl) ?_
  refine lv_lconst (v := 0) hx hb d_D_init_5 (by decide) ?_
  refine va_put (D := D) (ci := 0) (v := .long 0) (ty := .long) (C := "BuildDrawer$Drawing") (T := TD) (N := 9) hx hb hw inD tyD tyD_ok nmD hown hK hP hD hS 0 rfl rfl 0 (by decide) (hw _ k_23) (fun _ h9 => h9) rfl (by decide +kernel) rfl rfl (Nat.le_of_ble_eq_true rfl) d_D_init_6 (fun H locs hP hD hS => ?_)
  have hP : va_P D vwCl [(h0, .inr (0, [.long 0, .int sk, .int pb, .int nu, .int so, .int fa, .int fb, .int ne, .int mk]))] H := hP
  have hD : va_D A [(h0, .inr (0, [.long 0, .int sk, .int pb, .int nu, .int so, .int fa, .int fb, .int ne, .int mk]))] := hD
  refine lv_aload_n hx hb d_D_init_9 rfl (lv_at hl 0 rfl) ?_
  refine lv_iconst (v := 0) hx hb d_D_init_10 (by decide) ?_
  refine va_put (D := D) (ci := 0) (v := .int 0) (ty := .int) (C := "BuildDrawer$Drawing") (T := TD) (N := 9) hx hb hw inD tyD tyD_ok nmD hown hK hP hD hS 0 rfl rfl 1 (by decide) (hw _ k_24) (fun _ h9 => h9) rfl (by decide +kernel) rfl rfl (Nat.le_of_ble_eq_true rfl) d_D_init_11 (fun H locs hP hD hS => ?_)
  have hP : va_P D vwCl [(h0, .inr (0, [.long 0, .int 0, .int pb, .int nu, .int so, .int fa, .int fb, .int ne, .int mk]))] H := hP
  have hD : va_D A [(h0, .inr (0, [.long 0, .int 0, .int pb, .int nu, .int so, .int fa, .int fb, .int ne, .int mk]))] := hD
  refine lv_aload_n hx hb d_D_init_14 rfl (lv_at hl 0 rfl) ?_
  refine lv_iconst (v := 0) hx hb d_D_init_15 (by decide) ?_
  refine va_put (D := D) (ci := 0) (v := .int 0) (ty := .int) (C := "BuildDrawer$Drawing") (T := TD) (N := 9) hx hb hw inD tyD tyD_ok nmD hown hK hP hD hS 0 rfl rfl 2 (by decide) (hw _ k_25) (fun _ h9 => h9) rfl (by decide +kernel) rfl rfl (Nat.le_of_ble_eq_true rfl) d_D_init_16 (fun H locs hP hD hS => ?_)
  have hP : va_P D vwCl [(h0, .inr (0, [.long 0, .int 0, .int 0, .int nu, .int so, .int fa, .int fb, .int ne, .int mk]))] H := hP
  have hD : va_D A [(h0, .inr (0, [.long 0, .int 0, .int 0, .int nu, .int so, .int fa, .int fb, .int ne, .int mk]))] := hD
  refine lv_aload_n hx hb d_D_init_19 rfl (lv_at hl 0 rfl) ?_
  refine lv_iconst (v := (-1)) hx hb d_D_init_20 (by decide) ?_
  refine va_put (D := D) (ci := 0) (v := .int (-1)) (ty := .int) (C := "BuildDrawer$Drawing") (T := TD) (N := 9) hx hb hw inD tyD tyD_ok nmD hown hK hP hD hS 0 rfl rfl 3 (by decide) (hw _ k_26) (fun _ h9 => h9) rfl (by decide +kernel) rfl rfl (Nat.le_of_ble_eq_true rfl) d_D_init_21 (fun H locs hP hD hS => ?_)
  have hP : va_P D vwCl [(h0, .inr (0, [.long 0, .int 0, .int 0, .int (-1), .int so, .int fa, .int fb, .int ne, .int mk]))] H := hP
  have hD : va_D A [(h0, .inr (0, [.long 0, .int 0, .int 0, .int (-1), .int so, .int fa, .int fb, .int ne, .int mk]))] := hD
  refine lv_aload_n hx hb d_D_init_24 rfl (lv_at hl 0 rfl) ?_
  refine lv_iconst (v := 0) hx hb d_D_init_25 (by decide) ?_
  refine va_put (D := D) (ci := 0) (v := .int 0) (ty := .int) (C := "BuildDrawer$Drawing") (T := TD) (N := 9) hx hb hw inD tyD tyD_ok nmD hown hK hP hD hS 0 rfl rfl 4 (by decide) (hw _ k_27) (fun _ h9 => h9) rfl (by decide +kernel) rfl rfl (Nat.le_of_ble_eq_true rfl) d_D_init_26 (fun H locs hP hD hS => ?_)
  have hP : va_P D vwCl [(h0, .inr (0, [.long 0, .int 0, .int 0, .int (-1), .int 0, .int fa, .int fb, .int ne, .int mk]))] H := hP
  have hD : va_D A [(h0, .inr (0, [.long 0, .int 0, .int 0, .int (-1), .int 0, .int fa, .int fb, .int ne, .int mk]))] := hD
  refine lv_aload_n hx hb d_D_init_29 rfl (lv_at hl 0 rfl) ?_
  refine lv_iconst (v := 0) hx hb d_D_init_30 (by decide) ?_
  refine va_put (D := D) (ci := 0) (v := .int 0) (ty := .int) (C := "BuildDrawer$Drawing") (T := TD) (N := 9) hx hb hw inD tyD tyD_ok nmD hown hK hP hD hS 0 rfl rfl 5 (by decide) (hw _ k_29) (fun _ h9 => h9) rfl (by decide +kernel) rfl rfl (Nat.le_of_ble_eq_true rfl) d_D_init_31 (fun H locs hP hD hS => ?_)
  have hP : va_P D vwCl [(h0, .inr (0, [.long 0, .int 0, .int 0, .int (-1), .int 0, .int 0, .int fb, .int ne, .int mk]))] H := hP
  have hD : va_D A [(h0, .inr (0, [.long 0, .int 0, .int 0, .int (-1), .int 0, .int 0, .int fb, .int ne, .int mk]))] := hD
  refine lv_aload_n hx hb d_D_init_34 rfl (lv_at hl 0 rfl) ?_
  refine lv_iconst (v := 0) hx hb d_D_init_35 (by decide) ?_
  refine va_put (D := D) (ci := 0) (v := .int 0) (ty := .int) (C := "BuildDrawer$Drawing") (T := TD) (N := 9) hx hb hw inD tyD tyD_ok nmD hown hK hP hD hS 0 rfl rfl 6 (by decide) (hw _ k_31) (fun _ h9 => h9) rfl (by decide +kernel) rfl rfl (Nat.le_of_ble_eq_true rfl) d_D_init_36 (fun H locs hP hD hS => ?_)
  have hP : va_P D vwCl [(h0, .inr (0, [.long 0, .int 0, .int 0, .int (-1), .int 0, .int 0, .int 0, .int ne, .int mk]))] H := hP
  have hD : va_D A [(h0, .inr (0, [.long 0, .int 0, .int 0, .int (-1), .int 0, .int 0, .int 0, .int ne, .int mk]))] := hD
  refine lv_aload_n hx hb d_D_init_39 rfl (lv_at hl 0 rfl) ?_
  refine lv_iconst (v := (-1)) hx hb d_D_init_40 (by decide) ?_
  refine va_put (D := D) (ci := 0) (v := .int (-1)) (ty := .int) (C := "BuildDrawer$Drawing") (T := TD) (N := 9) hx hb hw inD tyD tyD_ok nmD hown hK hP hD hS 0 rfl rfl 7 (by decide) (hw _ k_33) (fun _ h9 => h9) rfl (by decide +kernel) rfl rfl (Nat.le_of_ble_eq_true rfl) d_D_init_41 (fun H locs hP hD hS => ?_)
  have hP : va_P D vwCl [(h0, .inr (0, [.long 0, .int 0, .int 0, .int (-1), .int 0, .int 0, .int 0, .int (-1), .int mk]))] H := hP
  have hD : va_D A [(h0, .inr (0, [.long 0, .int 0, .int 0, .int (-1), .int 0, .int 0, .int 0, .int (-1), .int mk]))] := hD
  refine lv_aload_n hx hb d_D_init_44 rfl (lv_at hl 0 rfl) ?_
  refine lv_iconst (v := 0) hx hb d_D_init_45 (by decide) ?_
  refine va_put (D := D) (ci := 0) (v := .int 0) (ty := .int) (C := "BuildDrawer$Drawing") (T := TD) (N := 9) hx hb hw inD tyD tyD_ok nmD hown hK hP hD hS 0 rfl rfl 8 (by decide) (hw _ k_35) (fun _ h9 => h9) rfl (by decide +kernel) rfl rfl (Nat.le_of_ble_eq_true rfl) d_D_init_46 (fun H locs hP hD hS => ?_)
  have hP : va_P D vwCl [(h0, .inr (0, [.long 0, .int 0, .int 0, .int (-1), .int 0, .int 0, .int 0, .int (-1), .int 0]))] H := hP
  have hD : va_D A [(h0, .inr (0, [.long 0, .int 0, .int 0, .int (-1), .int 0, .int 0, .int 0, .int (-1), .int 0]))] := hD
  exact cx_vret hx hb hr hlocks hK hP hD hS d_D_init_49 (rfl)
end
section
def bd_can (k z : Int32) : Int32 := if k < 0 then 0 else if 8 ≤ k then 0 else if z < 0 then 0 else if 60 < z then 0 else 1
def bd_ip (cnt : Nat) (i : Int32) : Int32 := if i < 0 then 0 else if nI cnt ≤ i then 0 else if 62 ≤ i then 0 else 1
/-- the first n of a row are v's, the others stay -/
def bd_fil (g : Nat → Int32) (n : Nat) (f : Nat → Int32) : Nat → Int32 := fun j => if j < n then g j else f j
theorem bd_fil0 (g f : Nat → Int32) : bd_fil g 0 f = f := by funext j; simp [bd_fil]
theorem bd_filS (g f : Nat → Int32) (n : Nat) {x : Int32} (hx : x = g n) : upd (bd_fil g n f) n x = bd_fil g (n + 1) f := by
  funext j
  by_cases h : j = n
  · subst h; rw [pk_us]; simp [bd_fil, hx]
  · rw [pk_un h]
    by_cases h2 : j < n
    · simp [bd_fil, h2, Nat.lt_succ_of_lt h2]
    · have h3 : ¬ j < n + 1 := by omega
      simp [bd_fil, h2, h3]
def bd_all (n : Nat) (f : Nat → Int32) : Nat → Int32 := bd_fil (fun _ => 1) n f
def bd_cl (f : Nat → Int32) : Nat → Nat
  | 0 => 0
  | n + 1 => if f n = 0 then bd_cl f n else bd_cl f n + 1
theorem bd_cl_le (f : Nat → Int32) (n : Nat) : bd_cl f n ≤ n := by
  induction n with
  | zero => exact Nat.le_refl _
  | succ n ih => rw [bd_cl]; split <;> omega
def bd_ml (f g : Nat → Int32) : Nat → Int32
  | 0 => 0
  | n + 1 => if f n = 0 then bd_ml f g n else bd_ml f g n ||| g n
def bd_cs (f s b : Nat → Int32) : Nat → Int32
  | 0 => 255
  | n + 1 => if f n = 0 then bd_cs f s b n else if s n = 2 then bd_cs f s b n &&& b n else bd_cs f s b n
def bd_ho (vb vs t : Int32) : Int32 := if (if vb &&& (t ^^^ (-1)) = 0 then (1 : Int32) else 0) = vs then 1 else 0
/-- some part of the first n, left and another, needs k -/
def bd_nx (f nd : Nat → Int32) (k : Nat) : Nat → Bool
  | 0 => false
  | n + 1 => bd_nx f nd k n || (decide (n ≠ k) && (decide (f n ≠ 0) && decide (nd n = nI k)))
def bd_wo (f g : Nat → Int32) (k : Nat) : Nat → Int32
  | 0 => 0
  | n + 1 => if n = k then bd_wo f g k n else if f n = 0 then bd_wo f g k n else bd_wo f g k n ||| g n
def bd_cg (f nd g : Nat → Int32) (vb vs : Int32) (cnt k : Nat) : Int32 := if f k = 0 then 0 else if bd_nx f nd k cnt = true then 0 else bd_ho vb vs (bd_wo f g k cnt)
theorem bd_nx_mono {f nd : Nat → Int32} {k n m : Nat} (h : bd_nx f nd k n = true) (hnm : n ≤ m) : bd_nx f nd k m = true := by
  induction m with
  | zero => rw [Nat.le_zero.mp hnm] at h; exact h
  | succ m ih =>
    by_cases h2 : n ≤ m
    · rw [bd_nx, ih h2]; rfl
    · have : n = m + 1 := by omega
      rw [← this]; exact h
theorem bd_nx_hit {f nd : Nat → Int32} {k n : Nat} (h1 : n ≠ k) (h2 : ¬ f n = 0) (h3 : nd n = nI k) : bd_nx f nd k (n + 1) = true := by simp [bd_nx, h1, h2, h3]
theorem bd_nx_miss {f nd : Nat → Int32} {k n : Nat} (h : bd_nx f nd k n = false) (h2 : n = k ∨ f n = 0 ∨ ¬ nd n = nI k) : bd_nx f nd k (n + 1) = false := by
  rw [bd_nx, h]
  rcases h2 with h2 | h2 | h2 <;> simp [h2]
theorem bd_ip_in {cnt k : Nat} (hc : cnt ≤ 62) (h : k < cnt) : bd_ip cnt (nI k) = 1 := by
  rw [bd_ip, if_neg (nI_pos (by omega)), if_neg (nI_ge h (by omega)), if_neg (show ¬ (62 : Int32) ≤ nI k from nI_ge (b := 62) (by omega) (by omega))]
theorem bd_ip_of {cnt : Nat} {i : Int32} (hc : cnt ≤ 62) (h : ¬ bd_ip cnt i = 0) : ∃ k, k < cnt ∧ i = nI k := by
  by_cases h1 : i < 0
  · exact absurd (by rw [bd_ip, if_pos h1]) h
  · by_cases h2 : nI cnt ≤ i
    · exact absurd (by rw [bd_ip, if_neg h1, if_pos h2]) h
    · rcases pk_ix i (n := cnt) (by omega) with h3 | h3 | h3
      · exact absurd h3 h1
      · exact absurd h3 h2
      · exact h3
theorem bd_z1 : narrow .boolean (.int 1) = .int 1 := rfl
theorem bd_dn_lt {n : Nat} (h : n ≤ 62) : nI n - 1 < 0 ↔ n = 0 := by
  cases n with
  | zero => exact ⟨fun _ => rfl, fun _ => by decide⟩
  | succ n => rw [nI_pred]; exact ⟨fun h2 => absurd h2 (nI_pos (by omega)), fun h2 => absurd h2 (Nat.succ_ne_zero n)⟩
theorem cx_dec (n : Nat) : nI n + Int32.ofInt (-1) = nI n - 1 := by
  rw [Int32.sub_eq_add_neg]; rfl
theorem bd_01 {x : Int32} (h : x = 0 ∨ x = 1) : narrow .boolean (.int x) = .int x ∧ fits .boolean (.int x) = true := by
  rcases h with h | h <;> subst h <;> exact ⟨rfl, rfl⟩
theorem bd_ho_01 (vb vs t : Int32) : bd_ho vb vs t = 0 ∨ bd_ho vb vs t = 1 := by
  unfold bd_ho
  by_cases h : (if vb &&& (t ^^^ (-1)) = 0 then (1 : Int32) else 0) = vs
  · rw [if_pos h]; exact Or.inr rfl
  · rw [if_neg h]; exact Or.inl rfl
theorem bd_cg_01 (f nd g : Nat → Int32) (vb vs : Int32) (cnt k : Nat) : bd_cg f nd g vb vs cnt k = 0 ∨ bd_cg f nd g vb vs cnt k = 1 := by
  unfold bd_cg
  split
  · exact Or.inl rfl
  · split
    · exact Or.inl rfl
    · exact bd_ho_01 _ _ _
set_option maxHeartbeats 4000000 in
set_option maxRecDepth 100000 in
theorem c_B_canBeDrawn (l : Launch) (G : cx_G) (D : va_G) (K : cx_KT) (sz : Nat) (k : Int32) (z : Int32)  : Met l y_B_canBeDrawn w_B_canBeDrawn ({ frames := 0, cells := 0, slots := 0, locals := 0 }) (cx_Pc G D (cx_ty K) [] sz [.int k, .int z]) (cx_Qi (bd_can k z) D (cx_ty K) [] (va_A [] sz)) 0 0 (va_A [] sz) := by
  refine Met.ofW (cc := prog_1_method_10_code) (maxL := 2) (ret := (some .boolean)) (by decide) rfl ?_
  intro p e s m args below meth c s₁ B hml hv
  obtain ⟨rfl, hsz, hP, hK, hD0, hE⟩ := hv
  have hx := B.exec
  have hb := B.bytes
  have hr := B.returns
  have hts := atoms_spec (ws := w_B_canBeDrawn) B.pre
  have hw : ∀ w ∈ cw, w.before _ s = true := fun w h => hts w (List.mem_cons_of_mem _ h)
  have hown : s.vm.findClass "BuildDrawer" = some m.cls := findClass_of_methodNamed B.named
  have hlocks := B.notSynchronized
  subst hsz
  have hD := hD0.self (sz := s.heap.size)
  generalize hAe : va_A [] s.heap.size = A at hD hE ⊢
  have hA : ∀ q : Nat, s.heap.size ≤ q → A q := fun q h => by rw [← hAe]; exact Or.inr h
  have hS : va_S A s.heap s.heap [] := va_S.rf
  have hl := lv_entry ([.int k, .int z]) (n := 2) (Nat.le_of_ble_eq_true rfl)
  rw [lg_entry_eq]
  generalize (lg_sl ([.int k, .int z]) ++ List.replicate (2 - (lg_sl ([.int k, .int z])).length) Slot.unset).toArray = ls at hl ⊢
  have hl : lv_has ls 2 [(0, .int k), (1, .int z)] := hl
  refine lv_iload_n hx hb d_B_canBeDrawn_0 rfl (lv_at hl 0 rfl) ?_
  refine lv_if_lt (tgt := 24) hx hb d_B_canBeDrawn_1 (by decide) (fun r_1 => ?_) (fun r_1 => ?_)
  · have c_1 := r_1
    refine lv_iconst (v := 0) hx hb d_B_canBeDrawn_24 (by decide) ?_
    exact cx_zret hx hb hr hlocks hK hP hD hS d_B_canBeDrawn_25 (rfl) (by simp only [bd_can, if_pos r_1]) (rfl)
  · have c_1 := r_1
    refine lv_iload_n hx hb d_B_canBeDrawn_4 rfl (lv_at hl 0 rfl) ?_
    refine lv_bipush (v := 8) hx hb d_B_canBeDrawn_5 (by decide) ?_
    refine lv_icmp_ge (tgt := 24) hx hb d_B_canBeDrawn_7 (by decide) (fun r_7 => ?_) (fun r_7 => ?_)
    · have c_7 := r_7
      refine lv_iconst (v := 0) hx hb d_B_canBeDrawn_24 (by decide) ?_
      exact cx_zret hx hb hr hlocks hK hP hD hS d_B_canBeDrawn_25 (rfl) (by simp only [bd_can, if_neg r_1, if_pos r_7]) (rfl)
    · have c_7 := r_7
      refine lv_iload_n hx hb d_B_canBeDrawn_10 rfl (lv_at hl 1 rfl) ?_
      refine lv_if_lt (tgt := 24) hx hb d_B_canBeDrawn_11 (by decide) (fun r_11 => ?_) (fun r_11 => ?_)
      · have c_11 := r_11
        refine lv_iconst (v := 0) hx hb d_B_canBeDrawn_24 (by decide) ?_
        exact cx_zret hx hb hr hlocks hK hP hD hS d_B_canBeDrawn_25 (rfl) (by simp only [bd_can, if_neg r_1, if_neg r_7, if_pos r_11]) (rfl)
      · have c_11 := r_11
        refine lv_iload_n hx hb d_B_canBeDrawn_14 rfl (lv_at hl 1 rfl) ?_
        refine lv_bipush (v := 60) hx hb d_B_canBeDrawn_15 (by decide) ?_
        refine lv_icmp_gt (tgt := 24) hx hb d_B_canBeDrawn_17 (by decide) (fun r_17 => ?_) (fun r_17 => ?_)
        · have c_17 := r_17
          refine lv_iconst (v := 0) hx hb d_B_canBeDrawn_24 (by decide) ?_
          exact cx_zret hx hb hr hlocks hK hP hD hS d_B_canBeDrawn_25 (rfl) (by simp only [bd_can, if_neg r_1, if_neg r_7, if_neg r_11, if_pos r_17]) (rfl)
        · have c_17 := r_17
          refine lv_iconst (v := 1) hx hb d_B_canBeDrawn_20 (by decide) ?_
          refine lv_goto (tgt := 25) hx hb d_B_canBeDrawn_21 (by decide) ?_
          exact cx_zret hx hb hr hlocks hK hP hD hS d_B_canBeDrawn_25 (rfl) (by simp only [bd_can, if_neg r_1, if_neg r_7, if_neg r_11, if_neg r_17]) (rfl)
set_option maxHeartbeats 4000000 in
set_option maxRecDepth 100000 in
theorem c_B_isPart (l : Launch) (G : cx_G) (D : va_G) (K : cx_KT) (sz : Nat) (h0 : Nat) (seed : Int64) (hM : Nat) (hO : Nat) (cnt : Nat) (aS : Nat) (aA : Nat) (aB : Nat) (aN : Nat) (aM : Nat) (aL : Nat) (vb : Int32) (vs : Int32) (aT : Nat) (tl : Int32) (i : Int32)  : Met l y_B_isPart w_B_isPart ({ frames := 0, cells := 0, slots := 0, locals := 0 }) (cx_Pc G D (cx_ty K) [(h0, .inr (1, [.long seed, .ref hM, .ref hO, .int (nI cnt), .ref aS, .ref aA, .ref aB, .ref aN, .ref aM, .ref aL, .int vb, .int vs, .ref aT, .int tl]))] sz [.ref h0, .int i]) (cx_Qi (bd_ip cnt i) D (cx_ty K) [(h0, .inr (1, [.long seed, .ref hM, .ref hO, .int (nI cnt), .ref aS, .ref aA, .ref aB, .ref aN, .ref aM, .ref aL, .int vb, .int vs, .ref aT, .int tl]))] (va_A [(h0, .inr (1, [.long seed, .ref hM, .ref hO, .int (nI cnt), .ref aS, .ref aA, .ref aB, .ref aN, .ref aM, .ref aL, .int vb, .int vs, .ref aT, .int tl]))] sz)) 0 0 (va_A [(h0, .inr (1, [.long seed, .ref hM, .ref hO, .int (nI cnt), .ref aS, .ref aA, .ref aB, .ref aN, .ref aM, .ref aL, .int vb, .int vs, .ref aT, .int tl]))] sz) := by
  refine Met.ofW (cc := prog_1_method_11_code) (maxL := 2) (ret := (some .boolean)) (by decide) rfl ?_
  intro p e s m args below meth c s₁ B hml hv
  obtain ⟨rfl, hsz, hP, hK, hD0, hE⟩ := hv
  have hx := B.exec
  have hb := B.bytes
  have hr := B.returns
  have hts := atoms_spec (ws := w_B_isPart) B.pre
  have hw : ∀ w ∈ cw, w.before _ s = true := fun w h => hts w (List.mem_cons_of_mem _ h)
  have hown : s.vm.findClass "BuildDrawer" = some m.cls := findClass_of_methodNamed B.named
  have hlocks := B.notSynchronized
  subst hsz
  have hD := hD0.self (sz := s.heap.size)
  generalize hAe : va_A [(h0, .inr (1, [.long seed, .ref hM, .ref hO, .int (nI cnt), .ref aS, .ref aA, .ref aB, .ref aN, .ref aM, .ref aL, .int vb, .int vs, .ref aT, .int tl]))] s.heap.size = A at hD hE ⊢
  have hA : ∀ q : Nat, s.heap.size ≤ q → A q := fun q h => by rw [← hAe]; exact Or.inr h
  have hS : va_S A s.heap s.heap [] := va_S.rf
  have hl := lv_entry ([.ref h0, .int i]) (n := 2) (Nat.le_of_ble_eq_true rfl)
  rw [lg_entry_eq]
  generalize (lg_sl ([.ref h0, .int i]) ++ List.replicate (2 - (lg_sl ([.ref h0, .int i])).length) Slot.unset).toArray = ls at hl ⊢
  have hl : lv_has ls 2 [(0, .ref h0), (1, .int i)] := hl
  refine lv_iload_n hx hb d_B_isPart_0 rfl (lv_at hl 1 rfl) ?_
  refine lv_if_lt (tgt := 22) hx hb d_B_isPart_1 (by decide) (fun r_1 => ?_) (fun r_1 => ?_)
  · have c_1 := r_1
    refine lv_iconst (v := 0) hx hb d_B_isPart_22 (by decide) ?_
    exact cx_zret hx hb hr hlocks hK hP hD hS d_B_isPart_23 (rfl) (by simp only [bd_ip, if_pos r_1]) (rfl)
  · have c_1 := r_1
    refine lv_iload_n hx hb d_B_isPart_4 rfl (lv_at hl 1 rfl) ?_
    refine lv_aload_n hx hb d_B_isPart_5 rfl (lv_at hl 0 rfl) ?_
    refine va_get (D := D) (ci := 1) (v := .int (nI cnt)) (C := "BuildDrawer") (T := TB) (N := 14) hx hb hw inB hown hK hP 0 rfl rfl 3 (by decide) (hw _ k_59) (fun _ h9 => h9) rfl d_B_isPart_6 ?_
    refine lv_icmp_ge (tgt := 22) hx hb d_B_isPart_9 (by decide) (fun r_9 => ?_) (fun r_9 => ?_)
    · have c_9 := r_9
      refine lv_iconst (v := 0) hx hb d_B_isPart_22 (by decide) ?_
      exact cx_zret hx hb hr hlocks hK hP hD hS d_B_isPart_23 (rfl) (by simp only [bd_ip, if_neg r_1, if_pos r_9]) (rfl)
    · have c_9 := r_9
      refine lv_iload_n hx hb d_B_isPart_12 rfl (lv_at hl 1 rfl) ?_
      refine lv_bipush (v := 62) hx hb d_B_isPart_13 (by decide) ?_
      refine lv_icmp_ge (tgt := 22) hx hb d_B_isPart_15 (by decide) (fun r_15 => ?_) (fun r_15 => ?_)
      · have c_15 := r_15
        refine lv_iconst (v := 0) hx hb d_B_isPart_22 (by decide) ?_
        exact cx_zret hx hb hr hlocks hK hP hD hS d_B_isPart_23 (rfl) (by simp only [bd_ip, if_neg r_1, if_neg r_9, if_pos r_15]) (rfl)
      · have c_15 := r_15
        refine lv_iconst (v := 1) hx hb d_B_isPart_18 (by decide) ?_
        refine lv_goto (tgt := 23) hx hb d_B_isPart_19 (by decide) ?_
        exact cx_zret hx hb hr hlocks hK hP hD hS d_B_isPart_23 (rfl) (by simp only [bd_ip, if_neg r_1, if_neg r_9, if_neg r_15]) (rfl)
set_option maxHeartbeats 4000000 in
set_option maxRecDepth 100000 in
theorem c_B_takeAllBack (l : Launch) (G : cx_G) (D : va_G) (K : cx_KT) (sz : Nat) (h0 : Nat) (seed : Int64) (hM : Nat) (hO : Nat) (cnt : Nat) (aS : Nat) (aA : Nat) (aB : Nat) (aN : Nat) (aM : Nat) (aL : Nat) (vb : Int32) (vs : Int32) (aT : Nat) (tl : Int32) (fL : Nat → Int32) (hcnt : cnt ≤ 62) : Met l y_B_takeAllBack w_B_takeAllBack ({ frames := 0, cells := 0, slots := 0, locals := 0 }) (cx_Pc G D (cx_ty K) [(h0, .inr (1, [.long seed, .ref hM, .ref hO, .int (nI cnt), .ref aS, .ref aA, .ref aB, .ref aN, .ref aM, .ref aL, .int vb, .int vs, .ref aT, .int tl])), (aL, .inl (K.2.1, 62, .inl fL))] sz [.ref h0]) (cx_Qv D (cx_ty K) [(h0, .inr (1, [.long seed, .ref hM, .ref hO, .int (nI cnt), .ref aS, .ref aA, .ref aB, .ref aN, .ref aM, .ref aL, .int vb, .int vs, .ref aT, .int (-1)])), (aL, .inl (K.2.1, 62, .inl (bd_all cnt fL)))] (va_A [(h0, .inr (1, [.long seed, .ref hM, .ref hO, .int (nI cnt), .ref aS, .ref aA, .ref aB, .ref aN, .ref aM, .ref aL, .int vb, .int vs, .ref aT, .int tl])), (aL, .inl (K.2.1, 62, .inl fL))] sz)) 0 0 (va_A [(h0, .inr (1, [.long seed, .ref hM, .ref hO, .int (nI cnt), .ref aS, .ref aA, .ref aB, .ref aN, .ref aM, .ref aL, .int vb, .int vs, .ref aT, .int tl])), (aL, .inl (K.2.1, 62, .inl fL))] sz) := by
  refine Met.ofW (cc := prog_1_method_12_code) (maxL := 2) (ret := none) (by decide) rfl ?_
  intro p e s m args below meth c s₁ B hml hv
  obtain ⟨rfl, hsz, hP, hK, hD0, hE⟩ := hv
  have hx := B.exec
  have hb := B.bytes
  have hr := B.returns
  have hts := atoms_spec (ws := w_B_takeAllBack) B.pre
  have hw : ∀ w ∈ cw, w.before _ s = true := fun w h => hts w (List.mem_cons_of_mem _ h)
  have hown : s.vm.findClass "BuildDrawer" = some m.cls := findClass_of_methodNamed B.named
  have hlocks := B.notSynchronized
  subst hsz
  have hD := hD0.self (sz := s.heap.size)
  generalize hAe : va_A [(h0, .inr (1, [.long seed, .ref hM, .ref hO, .int (nI cnt), .ref aS, .ref aA, .ref aB, .ref aN, .ref aM, .ref aL, .int vb, .int vs, .ref aT, .int tl])), (aL, .inl (K.2.1, 62, .inl fL))] s.heap.size = A at hD hE ⊢
  have hA : ∀ q : Nat, s.heap.size ≤ q → A q := fun q h => by rw [← hAe]; exact Or.inr h
  have hS : va_S A s.heap s.heap [] := va_S.rf
  have hl := lv_entry ([.ref h0]) (n := 2) (Nat.le_of_ble_eq_true rfl)
  rw [lg_entry_eq]
  generalize (lg_sl ([.ref h0]) ++ List.replicate (2 - (lg_sl ([.ref h0])).length) Slot.unset).toArray = ls at hl ⊢
  have hl : lv_has ls 2 [(0, .ref h0)] := hl
  refine lv_iconst (v := 0) hx hb d_B_takeAllBack_0 (by decide) ?_
  refine lv_istore_n (lv' := [(1, .int 0), (0, .ref h0)]) hx hb d_B_takeAllBack_1 rfl hl (by decide) rfl (fun ls hl => ?_)
  have hP : va_P D vwCl [(h0, .inr (1, [.long seed, .ref hM, .ref hO, .int (nI cnt), .ref aS, .ref aA, .ref aB, .ref aN, .ref aM, .ref aL, .int vb, .int vs, .ref aT, .int tl])), (aL, .inl (K.2.1, 62, .inl (bd_all 0 fL)))] s.heap := by rw [bd_all, bd_fil0]; exact hP
  have hD : va_D A [(h0, .inr (1, [.long seed, .ref hM, .ref hO, .int (nI cnt), .ref aS, .ref aA, .ref aB, .ref aN, .ref aM, .ref aL, .int vb, .int vs, .ref aT, .int tl])), (aL, .inl (K.2.1, 62, .inl (bd_all 0 fL)))] := by rw [bd_all, bd_fil0]; exact hD
  refine cx_loop (pc := 2) (st := []) (fun (i : Nat) H locs ls => i ≤ cnt ∧ va_P D vwCl [(h0, .inr (1, [.long seed, .ref hM, .ref hO, .int (nI cnt), .ref aS, .ref aA, .ref aB, .ref aN, .ref aM, .ref aL, .int vb, .int vs, .ref aT, .int tl])), (aL, .inl (K.2.1, 62, .inl (bd_all i fL)))] H ∧ va_D A [(h0, .inr (1, [.long seed, .ref hM, .ref hO, .int (nI cnt), .ref aS, .ref aA, .ref aB, .ref aN, .ref aM, .ref aL, .int vb, .int vs, .ref aT, .int tl])), (aL, .inl (K.2.1, 62, .inl (bd_all i fL)))] ∧ va_S A s.heap H locs ∧ lv_has ls 2 [(1, .int (nI i)), (0, .ref h0)]) (fun (i : Nat) => cnt - i) (fun z H locs ls hI ih => ?_) 0 ⟨Nat.zero_le _, hP, hD, hS, lv_sub hl [0, 1] rfl⟩
  obtain ⟨i, rfl⟩ : ∃ y, y = z := ⟨_, rfl⟩
  obtain ⟨hi, hP, hD, hS, hl⟩ := hI
  have hP : va_P D vwCl [(h0, .inr (1, [.long seed, .ref hM, .ref hO, .int (nI cnt), .ref aS, .ref aA, .ref aB, .ref aN, .ref aM, .ref aL, .int vb, .int vs, .ref aT, .int tl])), (aL, .inl (K.2.1, 62, .inl (bd_all i fL)))] H := hP
  have hD : va_D A [(h0, .inr (1, [.long seed, .ref hM, .ref hO, .int (nI cnt), .ref aS, .ref aA, .ref aB, .ref aN, .ref aM, .ref aL, .int vb, .int vs, .ref aT, .int tl])), (aL, .inl (K.2.1, 62, .inl (bd_all i fL)))] := hD
  have hl : lv_has ls 2 [(1, .int (nI i)), (0, .ref h0)] := hl
  refine lv_iload_n hx hb d_B_takeAllBack_2 rfl (lv_at hl 0 rfl) ?_
  refine lv_aload_n hx hb d_B_takeAllBack_3 rfl (lv_at hl 1 rfl) ?_
  refine va_get (D := D) (ci := 1) (v := .int (nI cnt)) (C := "BuildDrawer") (T := TB) (N := 14) hx hb hw inB hown hK hP 0 rfl rfl 3 (by decide) (hw _ k_59) (fun _ h9 => h9) rfl d_B_takeAllBack_4 ?_
  refine lv_icmp_ge (tgt := 29) hx hb d_B_takeAllBack_7 (by decide) (fun r_7 => ?_) (fun r_7 => ?_)
  · have c_7 := (nI_leI (a := cnt) (b := i) (by omega) (by omega)).mp r_7
    refine lv_aload_n hx hb d_B_takeAllBack_29 rfl (lv_at hl 1 rfl) ?_
    refine lv_iconst (v := (-1)) hx hb d_B_takeAllBack_30 (by decide) ?_
    refine va_put (D := D) (ci := 1) (v := .int (-1)) (ty := .int) (C := "BuildDrawer") (T := TB) (N := 14) hx hb hw inB tyB tyB_ok nmB hown hK hP hD hS 0 rfl rfl 13 (by decide) (hw _ k_69) (fun _ h9 => h9) rfl (by decide +kernel) rfl rfl (Nat.le_of_ble_eq_true rfl) d_B_takeAllBack_31 (fun H locs hP hD hS => ?_)
    have hP : va_P D vwCl [(h0, .inr (1, [.long seed, .ref hM, .ref hO, .int (nI cnt), .ref aS, .ref aA, .ref aB, .ref aN, .ref aM, .ref aL, .int vb, .int vs, .ref aT, .int (-1)])), (aL, .inl (K.2.1, 62, .inl (bd_all i fL)))] H := hP
    have hD : va_D A [(h0, .inr (1, [.long seed, .ref hM, .ref hO, .int (nI cnt), .ref aS, .ref aA, .ref aB, .ref aN, .ref aM, .ref aL, .int vb, .int vs, .ref aT, .int (-1)])), (aL, .inl (K.2.1, 62, .inl (bd_all i fL)))] := hD
    exact cx_vret hx hb hr hlocks hK hP hD hS d_B_takeAllBack_34 (by rw [show i = cnt by omega])
  · have c_7 := mt (nI_leI (a := cnt) (b := i) (by omega) (by omega)).mpr r_7
    refine lv_iload_n hx hb d_B_takeAllBack_10 rfl (lv_at hl 0 rfl) ?_
    refine lv_bipush (v := 62) hx hb d_B_takeAllBack_11 (by decide) ?_
    refine lv_icmp_ge (tgt := 29) hx hb d_B_takeAllBack_13 (by decide) (fun r_13 => ?_) (fun r_13 => ?_)
    · have c_13 := (nI_leI (a := 62) (b := i) (by omega) (by omega)).mp r_13
      omega
    · have c_13 := mt (nI_leI (a := 62) (b := i) (by omega) (by omega)).mpr r_13
      refine lv_aload_n hx hb d_B_takeAllBack_16 rfl (lv_at hl 1 rfl) ?_
      refine va_get (D := D) (ci := 1) (v := .ref aL) (C := "BuildDrawer") (T := TB) (N := 14) hx hb hw inB hown hK hP 0 rfl rfl 9 (by decide) (hw _ k_65) (fun _ h9 => h9) rfl d_B_takeAllBack_17 ?_
      refine lv_iload_n hx hb d_B_takeAllBack_20 rfl (lv_at hl 0 rfl) ?_
      refine lv_iconst (v := 1) hx hb d_B_takeAllBack_21 (by decide) ?_
      refine va_zast hx hb hK hP hD hS 1 1 rfl rfl (vp_in_nI (n := i) (by omega) (by omega)) d_B_takeAllBack_22 (fun H locs hP hD hS => ?_)
      have e_22 : upd (bd_all i fL) (nI i).toNatClampNeg (vp_nar .boolean 1) = bd_all (i + 1) fL := by rw [nI_clamp (by omega)]; exact bd_filS _ _ _ rfl
      have hP : va_P D vwCl [(h0, .inr (1, [.long seed, .ref hM, .ref hO, .int (nI cnt), .ref aS, .ref aA, .ref aB, .ref aN, .ref aM, .ref aL, .int vb, .int vs, .ref aT, .int tl])), (aL, .inl (K.2.1, 62, .inl (upd (bd_all i fL) (nI i).toNatClampNeg (vp_nar .boolean 1))))] H := hP
      have hD : va_D A [(h0, .inr (1, [.long seed, .ref hM, .ref hO, .int (nI cnt), .ref aS, .ref aA, .ref aB, .ref aN, .ref aM, .ref aL, .int vb, .int vs, .ref aT, .int tl])), (aL, .inl (K.2.1, 62, .inl (upd (bd_all i fL) (nI i).toNatClampNeg (vp_nar .boolean 1))))] := hD
      rw [e_22] at hP hD
      have hP : va_P D vwCl [(h0, .inr (1, [.long seed, .ref hM, .ref hO, .int (nI cnt), .ref aS, .ref aA, .ref aB, .ref aN, .ref aM, .ref aL, .int vb, .int vs, .ref aT, .int tl])), (aL, .inl (K.2.1, 62, .inl (bd_all (i + 1) fL)))] H := hP
      have hD : va_D A [(h0, .inr (1, [.long seed, .ref hM, .ref hO, .int (nI cnt), .ref aS, .ref aA, .ref aB, .ref aN, .ref aM, .ref aL, .int vb, .int vs, .ref aT, .int tl])), (aL, .inl (K.2.1, 62, .inl (bd_all (i + 1) fL)))] := hD
      refine lv_iinc (v := nI (i + 1)) (lv' := [(1, .int (nI (i + 1))), (0, .ref h0)]) hx hb d_B_takeAllBack_23 hl (k := 0) rfl (by exact cx_inc i) (by decide) rfl (fun ls hl => ?_)
      refine lv_goto (tgt := 2) hx hb d_B_takeAllBack_26 (by decide) ?_
      exact ih (i + 1) _ _ _ ⟨(by omega), hP, hD, hS, lv_sub hl [0, 1] rfl⟩ (by omega)
set_option maxHeartbeats 4000000 in
set_option maxRecDepth 100000 in
theorem c_B_countLeft (l : Launch) (G : cx_G) (D : va_G) (K : cx_KT) (sz : Nat) (h0 : Nat) (seed : Int64) (hM : Nat) (hO : Nat) (cnt : Nat) (aS : Nat) (aA : Nat) (aB : Nat) (aN : Nat) (aM : Nat) (aL : Nat) (vb : Int32) (vs : Int32) (aT : Nat) (tl : Int32) (fL : Nat → Int32) (hcnt : cnt ≤ 62) : Met l y_B_countLeft w_B_countLeft ({ frames := 0, cells := 0, slots := 0, locals := 0 }) (cx_Pc G D (cx_ty K) [(h0, .inr (1, [.long seed, .ref hM, .ref hO, .int (nI cnt), .ref aS, .ref aA, .ref aB, .ref aN, .ref aM, .ref aL, .int vb, .int vs, .ref aT, .int tl])), (aL, .inl (K.2.1, 62, .inl fL))] sz [.ref h0]) (cx_Qi (nI (bd_cl fL cnt)) D (cx_ty K) [(h0, .inr (1, [.long seed, .ref hM, .ref hO, .int (nI cnt), .ref aS, .ref aA, .ref aB, .ref aN, .ref aM, .ref aL, .int vb, .int vs, .ref aT, .int tl])), (aL, .inl (K.2.1, 62, .inl fL))] (va_A [(h0, .inr (1, [.long seed, .ref hM, .ref hO, .int (nI cnt), .ref aS, .ref aA, .ref aB, .ref aN, .ref aM, .ref aL, .int vb, .int vs, .ref aT, .int tl])), (aL, .inl (K.2.1, 62, .inl fL))] sz)) 0 0 (va_A [(h0, .inr (1, [.long seed, .ref hM, .ref hO, .int (nI cnt), .ref aS, .ref aA, .ref aB, .ref aN, .ref aM, .ref aL, .int vb, .int vs, .ref aT, .int tl])), (aL, .inl (K.2.1, 62, .inl fL))] sz) := by
  refine Met.ofW (cc := prog_1_method_13_code) (maxL := 3) (ret := (some .int)) (by decide) rfl ?_
  intro p e s m args below meth c s₁ B hml hv
  obtain ⟨rfl, hsz, hP, hK, hD0, hE⟩ := hv
  have hx := B.exec
  have hb := B.bytes
  have hr := B.returns
  have hts := atoms_spec (ws := w_B_countLeft) B.pre
  have hw : ∀ w ∈ cw, w.before _ s = true := fun w h => hts w (List.mem_cons_of_mem _ h)
  have hown : s.vm.findClass "BuildDrawer" = some m.cls := findClass_of_methodNamed B.named
  have hlocks := B.notSynchronized
  subst hsz
  have hD := hD0.self (sz := s.heap.size)
  generalize hAe : va_A [(h0, .inr (1, [.long seed, .ref hM, .ref hO, .int (nI cnt), .ref aS, .ref aA, .ref aB, .ref aN, .ref aM, .ref aL, .int vb, .int vs, .ref aT, .int tl])), (aL, .inl (K.2.1, 62, .inl fL))] s.heap.size = A at hD hE ⊢
  have hA : ∀ q : Nat, s.heap.size ≤ q → A q := fun q h => by rw [← hAe]; exact Or.inr h
  have hS : va_S A s.heap s.heap [] := va_S.rf
  have hl := lv_entry ([.ref h0]) (n := 3) (Nat.le_of_ble_eq_true rfl)
  rw [lg_entry_eq]
  generalize (lg_sl ([.ref h0]) ++ List.replicate (3 - (lg_sl ([.ref h0])).length) Slot.unset).toArray = ls at hl ⊢
  have hl : lv_has ls 3 [(0, .ref h0)] := hl
  refine lv_iconst (v := 0) hx hb d_B_countLeft_0 (by decide) ?_
  refine lv_istore_n (lv' := [(1, .int 0), (0, .ref h0)]) hx hb d_B_countLeft_1 rfl hl (by decide) rfl (fun ls hl => ?_)
  refine lv_iconst (v := 0) hx hb d_B_countLeft_2 (by decide) ?_
  refine lv_istore_n (lv' := [(2, .int 0), (1, .int 0), (0, .ref h0)]) hx hb d_B_countLeft_3 rfl hl (by decide) rfl (fun ls hl => ?_)
  refine cx_loop (pc := 4) (st := []) (fun (i : Nat) H locs ls => i ≤ cnt ∧ va_P D vwCl [(h0, .inr (1, [.long seed, .ref hM, .ref hO, .int (nI cnt), .ref aS, .ref aA, .ref aB, .ref aN, .ref aM, .ref aL, .int vb, .int vs, .ref aT, .int tl])), (aL, .inl (K.2.1, 62, .inl fL))] H ∧ va_D A [(h0, .inr (1, [.long seed, .ref hM, .ref hO, .int (nI cnt), .ref aS, .ref aA, .ref aB, .ref aN, .ref aM, .ref aL, .int vb, .int vs, .ref aT, .int tl])), (aL, .inl (K.2.1, 62, .inl fL))] ∧ va_S A s.heap H locs ∧ lv_has ls 3 [(2, .int (nI i)), (1, .int (nI (bd_cl fL i))), (0, .ref h0)]) (fun (i : Nat) => cnt - i) (fun z H locs ls hI ih => ?_) 0 ⟨Nat.zero_le _, hP, hD, hS, lv_sub hl [0, 1, 2] rfl⟩
  obtain ⟨i, rfl⟩ : ∃ y, y = z := ⟨_, rfl⟩
  obtain ⟨hi, hP, hD, hS, hl⟩ := hI
  have hP : va_P D vwCl [(h0, .inr (1, [.long seed, .ref hM, .ref hO, .int (nI cnt), .ref aS, .ref aA, .ref aB, .ref aN, .ref aM, .ref aL, .int vb, .int vs, .ref aT, .int tl])), (aL, .inl (K.2.1, 62, .inl fL))] H := hP
  have hD : va_D A [(h0, .inr (1, [.long seed, .ref hM, .ref hO, .int (nI cnt), .ref aS, .ref aA, .ref aB, .ref aN, .ref aM, .ref aL, .int vb, .int vs, .ref aT, .int tl])), (aL, .inl (K.2.1, 62, .inl fL))] := hD
  have hl : lv_has ls 3 [(2, .int (nI i)), (1, .int (nI (bd_cl fL i))), (0, .ref h0)] := hl
  refine lv_iload_n hx hb d_B_countLeft_4 rfl (lv_at hl 0 rfl) ?_
  refine lv_aload_n hx hb d_B_countLeft_5 rfl (lv_at hl 2 rfl) ?_
  refine va_get (D := D) (ci := 1) (v := .int (nI cnt)) (C := "BuildDrawer") (T := TB) (N := 14) hx hb hw inB hown hK hP 0 rfl rfl 3 (by decide) (hw _ k_59) (fun _ h9 => h9) rfl d_B_countLeft_6 ?_
  refine lv_icmp_ge (tgt := 36) hx hb d_B_countLeft_9 (by decide) (fun r_9 => ?_) (fun r_9 => ?_)
  · have c_9 := (nI_leI (a := cnt) (b := i) (by omega) (by omega)).mp r_9
    refine lv_iload_n hx hb d_B_countLeft_36 rfl (lv_at hl 1 rfl) ?_
    exact cx_iret hx hb hr hlocks hK hP hD hS d_B_countLeft_37 (by rw [show i = cnt by omega]) (rfl)
  · have c_9 := mt (nI_leI (a := cnt) (b := i) (by omega) (by omega)).mpr r_9
    refine lv_iload_n hx hb d_B_countLeft_12 rfl (lv_at hl 0 rfl) ?_
    refine lv_bipush (v := 62) hx hb d_B_countLeft_13 (by decide) ?_
    refine lv_icmp_ge (tgt := 36) hx hb d_B_countLeft_15 (by decide) (fun r_15 => ?_) (fun r_15 => ?_)
    · have c_15 := (nI_leI (a := 62) (b := i) (by omega) (by omega)).mp r_15
      omega
    · have c_15 := mt (nI_leI (a := 62) (b := i) (by omega) (by omega)).mpr r_15
      refine lv_aload_n hx hb d_B_countLeft_18 rfl (lv_at hl 2 rfl) ?_
      refine va_get (D := D) (ci := 1) (v := .ref aL) (C := "BuildDrawer") (T := TB) (N := 14) hx hb hw inB hown hK hP 0 rfl rfl 9 (by decide) (hw _ k_65) (fun _ h9 => h9) rfl d_B_countLeft_19 ?_
      refine lv_iload_n hx hb d_B_countLeft_22 rfl (lv_at hl 0 rfl) ?_
      refine va_zald hx hb hK hP 1 1 rfl rfl (vp_in_nI (n := i) (by omega) (by omega)) d_B_countLeft_23 ?_
      refine cx_ti (y := fL i) (by rw [nI_clamp (by omega)]) ?_
      refine lv_if_eq (tgt := 30) hx hb d_B_countLeft_24 (by decide) (fun r_24 => ?_) (fun r_24 => ?_)
      · have c_24 := r_24
        have e_i : bd_cl fL (i + 1) = bd_cl fL i := by rw [bd_cl, if_pos r_24]
        rw [← e_i] at hl
        refine lv_iinc (v := nI (i + 1)) (lv' := [(2, .int (nI (i + 1))), (1, .int (nI (bd_cl fL (i + 1)))), (0, .ref h0)]) hx hb d_B_countLeft_30 hl (k := 0) rfl (by exact cx_inc i) (by decide) rfl (fun ls hl => ?_)
        refine lv_goto (tgt := 4) hx hb d_B_countLeft_33 (by decide) ?_
        exact ih (i + 1) _ _ _ ⟨(by omega), hP, hD, hS, lv_sub hl [0, 1, 2] rfl⟩ (by omega)
      · have c_24 := r_24
        have e_i : bd_cl fL (i + 1) = bd_cl fL i + 1 := by rw [bd_cl, if_neg r_24]
        refine lv_iinc (v := nI (bd_cl fL i + 1)) (lv' := [(1, .int (nI (bd_cl fL i + 1))), (2, .int (nI i)), (0, .ref h0)]) hx hb d_B_countLeft_27 hl (k := 1) rfl (by exact cx_inc (bd_cl fL i)) (by decide) rfl (fun ls hl => ?_)
        rw [← e_i] at hl
        refine lv_iinc (v := nI (i + 1)) (lv' := [(2, .int (nI (i + 1))), (1, .int (nI (bd_cl fL (i + 1)))), (0, .ref h0)]) hx hb d_B_countLeft_30 hl (k := 1) rfl (by exact cx_inc i) (by decide) rfl (fun ls hl => ?_)
        refine lv_goto (tgt := 4) hx hb d_B_countLeft_33 (by decide) ?_
        exact ih (i + 1) _ _ _ ⟨(by omega), hP, hD, hS, lv_sub hl [0, 1, 2] rfl⟩ (by omega)
set_option maxHeartbeats 4000000 in
set_option maxRecDepth 100000 in
theorem c_B_marksLeft (l : Launch) (G : cx_G) (D : va_G) (K : cx_KT) (sz : Nat) (h0 : Nat) (seed : Int64) (hM : Nat) (hO : Nat) (cnt : Nat) (aS : Nat) (aA : Nat) (aB : Nat) (aN : Nat) (aM : Nat) (aL : Nat) (vb : Int32) (vs : Int32) (aT : Nat) (tl : Int32) (fL : Nat → Int32) (fM : Nat → Int32) (hcnt : cnt ≤ 62) : Met l y_B_marksLeft w_B_marksLeft ({ frames := 0, cells := 0, slots := 0, locals := 0 }) (cx_Pc G D (cx_ty K) [(h0, .inr (1, [.long seed, .ref hM, .ref hO, .int (nI cnt), .ref aS, .ref aA, .ref aB, .ref aN, .ref aM, .ref aL, .int vb, .int vs, .ref aT, .int tl])), (aL, .inl (K.2.1, 62, .inl fL)), (aM, .inl (K.1, 62, .inl fM))] sz [.ref h0]) (cx_Qi (bd_ml fL fM cnt) D (cx_ty K) [(h0, .inr (1, [.long seed, .ref hM, .ref hO, .int (nI cnt), .ref aS, .ref aA, .ref aB, .ref aN, .ref aM, .ref aL, .int vb, .int vs, .ref aT, .int tl])), (aL, .inl (K.2.1, 62, .inl fL)), (aM, .inl (K.1, 62, .inl fM))] (va_A [(h0, .inr (1, [.long seed, .ref hM, .ref hO, .int (nI cnt), .ref aS, .ref aA, .ref aB, .ref aN, .ref aM, .ref aL, .int vb, .int vs, .ref aT, .int tl])), (aL, .inl (K.2.1, 62, .inl fL)), (aM, .inl (K.1, 62, .inl fM))] sz)) 0 0 (va_A [(h0, .inr (1, [.long seed, .ref hM, .ref hO, .int (nI cnt), .ref aS, .ref aA, .ref aB, .ref aN, .ref aM, .ref aL, .int vb, .int vs, .ref aT, .int tl])), (aL, .inl (K.2.1, 62, .inl fL)), (aM, .inl (K.1, 62, .inl fM))] sz) := by
  refine Met.ofW (cc := prog_1_method_14_code) (maxL := 3) (ret := (some .int)) (by decide) rfl ?_
  intro p e s m args below meth c s₁ B hml hv
  obtain ⟨rfl, hsz, hP, hK, hD0, hE⟩ := hv
  have hx := B.exec
  have hb := B.bytes
  have hr := B.returns
  have hts := atoms_spec (ws := w_B_marksLeft) B.pre
  have hw : ∀ w ∈ cw, w.before _ s = true := fun w h => hts w (List.mem_cons_of_mem _ h)
  have hown : s.vm.findClass "BuildDrawer" = some m.cls := findClass_of_methodNamed B.named
  have hlocks := B.notSynchronized
  subst hsz
  have hD := hD0.self (sz := s.heap.size)
  generalize hAe : va_A [(h0, .inr (1, [.long seed, .ref hM, .ref hO, .int (nI cnt), .ref aS, .ref aA, .ref aB, .ref aN, .ref aM, .ref aL, .int vb, .int vs, .ref aT, .int tl])), (aL, .inl (K.2.1, 62, .inl fL)), (aM, .inl (K.1, 62, .inl fM))] s.heap.size = A at hD hE ⊢
  have hA : ∀ q : Nat, s.heap.size ≤ q → A q := fun q h => by rw [← hAe]; exact Or.inr h
  have hS : va_S A s.heap s.heap [] := va_S.rf
  have hl := lv_entry ([.ref h0]) (n := 3) (Nat.le_of_ble_eq_true rfl)
  rw [lg_entry_eq]
  generalize (lg_sl ([.ref h0]) ++ List.replicate (3 - (lg_sl ([.ref h0])).length) Slot.unset).toArray = ls at hl ⊢
  have hl : lv_has ls 3 [(0, .ref h0)] := hl
  refine lv_iconst (v := 0) hx hb d_B_marksLeft_0 (by decide) ?_
  refine lv_istore_n (lv' := [(1, .int 0), (0, .ref h0)]) hx hb d_B_marksLeft_1 rfl hl (by decide) rfl (fun ls hl => ?_)
  refine lv_iconst (v := 0) hx hb d_B_marksLeft_2 (by decide) ?_
  refine lv_istore_n (lv' := [(2, .int 0), (1, .int 0), (0, .ref h0)]) hx hb d_B_marksLeft_3 rfl hl (by decide) rfl (fun ls hl => ?_)
  refine cx_loop (pc := 4) (st := []) (fun (i : Nat) H locs ls => i ≤ cnt ∧ va_P D vwCl [(h0, .inr (1, [.long seed, .ref hM, .ref hO, .int (nI cnt), .ref aS, .ref aA, .ref aB, .ref aN, .ref aM, .ref aL, .int vb, .int vs, .ref aT, .int tl])), (aL, .inl (K.2.1, 62, .inl fL)), (aM, .inl (K.1, 62, .inl fM))] H ∧ va_D A [(h0, .inr (1, [.long seed, .ref hM, .ref hO, .int (nI cnt), .ref aS, .ref aA, .ref aB, .ref aN, .ref aM, .ref aL, .int vb, .int vs, .ref aT, .int tl])), (aL, .inl (K.2.1, 62, .inl fL)), (aM, .inl (K.1, 62, .inl fM))] ∧ va_S A s.heap H locs ∧ lv_has ls 3 [(2, .int (nI i)), (1, .int (bd_ml fL fM i)), (0, .ref h0)]) (fun (i : Nat) => cnt - i) (fun z H locs ls hI ih => ?_) 0 ⟨Nat.zero_le _, hP, hD, hS, lv_sub hl [0, 1, 2] rfl⟩
  obtain ⟨i, rfl⟩ : ∃ y, y = z := ⟨_, rfl⟩
  obtain ⟨hi, hP, hD, hS, hl⟩ := hI
  have hP : va_P D vwCl [(h0, .inr (1, [.long seed, .ref hM, .ref hO, .int (nI cnt), .ref aS, .ref aA, .ref aB, .ref aN, .ref aM, .ref aL, .int vb, .int vs, .ref aT, .int tl])), (aL, .inl (K.2.1, 62, .inl fL)), (aM, .inl (K.1, 62, .inl fM))] H := hP
  have hD : va_D A [(h0, .inr (1, [.long seed, .ref hM, .ref hO, .int (nI cnt), .ref aS, .ref aA, .ref aB, .ref aN, .ref aM, .ref aL, .int vb, .int vs, .ref aT, .int tl])), (aL, .inl (K.2.1, 62, .inl fL)), (aM, .inl (K.1, 62, .inl fM))] := hD
  have hl : lv_has ls 3 [(2, .int (nI i)), (1, .int (bd_ml fL fM i)), (0, .ref h0)] := hl
  refine lv_iload_n hx hb d_B_marksLeft_4 rfl (lv_at hl 0 rfl) ?_
  refine lv_aload_n hx hb d_B_marksLeft_5 rfl (lv_at hl 2 rfl) ?_
  refine va_get (D := D) (ci := 1) (v := .int (nI cnt)) (C := "BuildDrawer") (T := TB) (N := 14) hx hb hw inB hown hK hP 0 rfl rfl 3 (by decide) (hw _ k_59) (fun _ h9 => h9) rfl d_B_marksLeft_6 ?_
  refine lv_icmp_ge (tgt := 42) hx hb d_B_marksLeft_9 (by decide) (fun r_9 => ?_) (fun r_9 => ?_)
  · have c_9 := (nI_leI (a := cnt) (b := i) (by omega) (by omega)).mp r_9
    refine lv_iload_n hx hb d_B_marksLeft_42 rfl (lv_at hl 1 rfl) ?_
    exact cx_iret hx hb hr hlocks hK hP hD hS d_B_marksLeft_43 (by rw [show i = cnt by omega]) (rfl)
  · have c_9 := mt (nI_leI (a := cnt) (b := i) (by omega) (by omega)).mpr r_9
    refine lv_iload_n hx hb d_B_marksLeft_12 rfl (lv_at hl 0 rfl) ?_
    refine lv_bipush (v := 62) hx hb d_B_marksLeft_13 (by decide) ?_
    refine lv_icmp_ge (tgt := 42) hx hb d_B_marksLeft_15 (by decide) (fun r_15 => ?_) (fun r_15 => ?_)
    · have c_15 := (nI_leI (a := 62) (b := i) (by omega) (by omega)).mp r_15
      omega
    · have c_15 := mt (nI_leI (a := 62) (b := i) (by omega) (by omega)).mpr r_15
      refine lv_aload_n hx hb d_B_marksLeft_18 rfl (lv_at hl 2 rfl) ?_
      refine va_get (D := D) (ci := 1) (v := .ref aL) (C := "BuildDrawer") (T := TB) (N := 14) hx hb hw inB hown hK hP 0 rfl rfl 9 (by decide) (hw _ k_65) (fun _ h9 => h9) rfl d_B_marksLeft_19 ?_
      refine lv_iload_n hx hb d_B_marksLeft_22 rfl (lv_at hl 0 rfl) ?_
      refine va_zald hx hb hK hP 1 1 rfl rfl (vp_in_nI (n := i) (by omega) (by omega)) d_B_marksLeft_23 ?_
      refine cx_ti (y := fL i) (by rw [nI_clamp (by omega)]) ?_
      refine lv_if_eq (tgt := 36) hx hb d_B_marksLeft_24 (by decide) (fun r_24 => ?_) (fun r_24 => ?_)
      · have c_24 := r_24
        have e_i : bd_ml fL fM (i + 1) = bd_ml fL fM i := by rw [bd_ml, if_pos r_24]
        rw [← e_i] at hl
        refine lv_iinc (v := nI (i + 1)) (lv' := [(2, .int (nI (i + 1))), (1, .int (bd_ml fL fM (i + 1))), (0, .ref h0)]) hx hb d_B_marksLeft_36 hl (k := 0) rfl (by exact cx_inc i) (by decide) rfl (fun ls hl => ?_)
        refine lv_goto (tgt := 4) hx hb d_B_marksLeft_39 (by decide) ?_
        exact ih (i + 1) _ _ _ ⟨(by omega), hP, hD, hS, lv_sub hl [0, 1, 2] rfl⟩ (by omega)
      · have c_24 := r_24
        have e_i : bd_ml fL fM (i + 1) = bd_ml fL fM i ||| fM i := by rw [bd_ml, if_neg r_24]
        refine lv_iload_n hx hb d_B_marksLeft_27 rfl (lv_at hl 1 rfl) ?_
        refine lv_aload_n hx hb d_B_marksLeft_28 rfl (lv_at hl 2 rfl) ?_
        refine va_get (D := D) (ci := 1) (v := .ref aM) (C := "BuildDrawer") (T := TB) (N := 14) hx hb hw inB hown hK hP 0 rfl rfl 8 (by decide) (hw _ k_64) (fun _ h9 => h9) rfl d_B_marksLeft_29 ?_
        refine lv_iload_n hx hb d_B_marksLeft_32 rfl (lv_at hl 0 rfl) ?_
        refine va_iald hx hb hK hP 2 0 rfl rfl (vp_in_nI (n := i) (by omega) (by omega)) d_B_marksLeft_33 ?_
        refine cx_ti (y := fM i) (by rw [nI_clamp (by omega)]) ?_
        refine lv_ior hx hb d_B_marksLeft_34 ?_
        refine lv_istore_n (lv' := [(1, .int ((bd_ml fL fM i) ||| (fM i))), (2, .int (nI i)), (0, .ref h0)]) hx hb d_B_marksLeft_35 rfl hl (by decide) rfl (fun ls hl => ?_)
        rw [← e_i] at hl
        refine lv_iinc (v := nI (i + 1)) (lv' := [(2, .int (nI (i + 1))), (1, .int (bd_ml fL fM (i + 1))), (0, .ref h0)]) hx hb d_B_marksLeft_36 hl (k := 1) rfl (by exact cx_inc i) (by decide) rfl (fun ls hl => ?_)
        refine lv_goto (tgt := 4) hx hb d_B_marksLeft_39 (by decide) ?_
        exact ih (i + 1) _ _ _ ⟨(by omega), hP, hD, hS, lv_sub hl [0, 1, 2] rfl⟩ (by omega)
set_option maxHeartbeats 4000000 in
set_option maxRecDepth 100000 in
theorem c_B_commonSet (l : Launch) (G : cx_G) (D : va_G) (K : cx_KT) (sz : Nat) (h0 : Nat) (seed : Int64) (hM : Nat) (hO : Nat) (cnt : Nat) (aS : Nat) (aA : Nat) (aB : Nat) (aN : Nat) (aM : Nat) (aL : Nat) (vb : Int32) (vs : Int32) (aT : Nat) (tl : Int32) (fL : Nat → Int32) (fS : Nat → Int32) (fB : Nat → Int32) (hcnt : cnt ≤ 62) : Met l y_B_commonSet w_B_commonSet ({ frames := 0, cells := 0, slots := 0, locals := 0 }) (cx_Pc G D (cx_ty K) [(h0, .inr (1, [.long seed, .ref hM, .ref hO, .int (nI cnt), .ref aS, .ref aA, .ref aB, .ref aN, .ref aM, .ref aL, .int vb, .int vs, .ref aT, .int tl])), (aL, .inl (K.2.1, 62, .inl fL)), (aS, .inl (K.1, 62, .inl fS)), (aB, .inl (K.1, 62, .inl fB))] sz [.ref h0]) (cx_Qi (bd_cs fL fS fB cnt) D (cx_ty K) [(h0, .inr (1, [.long seed, .ref hM, .ref hO, .int (nI cnt), .ref aS, .ref aA, .ref aB, .ref aN, .ref aM, .ref aL, .int vb, .int vs, .ref aT, .int tl])), (aL, .inl (K.2.1, 62, .inl fL)), (aS, .inl (K.1, 62, .inl fS)), (aB, .inl (K.1, 62, .inl fB))] (va_A [(h0, .inr (1, [.long seed, .ref hM, .ref hO, .int (nI cnt), .ref aS, .ref aA, .ref aB, .ref aN, .ref aM, .ref aL, .int vb, .int vs, .ref aT, .int tl])), (aL, .inl (K.2.1, 62, .inl fL)), (aS, .inl (K.1, 62, .inl fS)), (aB, .inl (K.1, 62, .inl fB))] sz)) 0 0 (va_A [(h0, .inr (1, [.long seed, .ref hM, .ref hO, .int (nI cnt), .ref aS, .ref aA, .ref aB, .ref aN, .ref aM, .ref aL, .int vb, .int vs, .ref aT, .int tl])), (aL, .inl (K.2.1, 62, .inl fL)), (aS, .inl (K.1, 62, .inl fS)), (aB, .inl (K.1, 62, .inl fB))] sz) := by
  refine Met.ofW (cc := prog_1_method_15_code) (maxL := 3) (ret := (some .int)) (by decide) rfl ?_
  intro p e s m args below meth c s₁ B hml hv
  obtain ⟨rfl, hsz, hP, hK, hD0, hE⟩ := hv
  have hx := B.exec
  have hb := B.bytes
  have hr := B.returns
  have hts := atoms_spec (ws := w_B_commonSet) B.pre
  have hw : ∀ w ∈ cw, w.before _ s = true := fun w h => hts w (List.mem_cons_of_mem _ h)
  have hown : s.vm.findClass "BuildDrawer" = some m.cls := findClass_of_methodNamed B.named
  have hlocks := B.notSynchronized
  subst hsz
  have hD := hD0.self (sz := s.heap.size)
  generalize hAe : va_A [(h0, .inr (1, [.long seed, .ref hM, .ref hO, .int (nI cnt), .ref aS, .ref aA, .ref aB, .ref aN, .ref aM, .ref aL, .int vb, .int vs, .ref aT, .int tl])), (aL, .inl (K.2.1, 62, .inl fL)), (aS, .inl (K.1, 62, .inl fS)), (aB, .inl (K.1, 62, .inl fB))] s.heap.size = A at hD hE ⊢
  have hA : ∀ q : Nat, s.heap.size ≤ q → A q := fun q h => by rw [← hAe]; exact Or.inr h
  have hS : va_S A s.heap s.heap [] := va_S.rf
  have hl := lv_entry ([.ref h0]) (n := 3) (Nat.le_of_ble_eq_true rfl)
  rw [lg_entry_eq]
  generalize (lg_sl ([.ref h0]) ++ List.replicate (3 - (lg_sl ([.ref h0])).length) Slot.unset).toArray = ls at hl ⊢
  have hl : lv_has ls 3 [(0, .ref h0)] := hl
  refine lv_sipush (v := 255) hx hb d_B_commonSet_0 (by decide) ?_
  refine lv_istore_n (lv' := [(1, .int 255), (0, .ref h0)]) hx hb d_B_commonSet_3 rfl hl (by decide) rfl (fun ls hl => ?_)
  refine lv_iconst (v := 0) hx hb d_B_commonSet_4 (by decide) ?_
  refine lv_istore_n (lv' := [(2, .int 0), (1, .int 255), (0, .ref h0)]) hx hb d_B_commonSet_5 rfl hl (by decide) rfl (fun ls hl => ?_)
  refine cx_loop (pc := 6) (st := []) (fun (i : Nat) H locs ls => i ≤ cnt ∧ va_P D vwCl [(h0, .inr (1, [.long seed, .ref hM, .ref hO, .int (nI cnt), .ref aS, .ref aA, .ref aB, .ref aN, .ref aM, .ref aL, .int vb, .int vs, .ref aT, .int tl])), (aL, .inl (K.2.1, 62, .inl fL)), (aS, .inl (K.1, 62, .inl fS)), (aB, .inl (K.1, 62, .inl fB))] H ∧ va_D A [(h0, .inr (1, [.long seed, .ref hM, .ref hO, .int (nI cnt), .ref aS, .ref aA, .ref aB, .ref aN, .ref aM, .ref aL, .int vb, .int vs, .ref aT, .int tl])), (aL, .inl (K.2.1, 62, .inl fL)), (aS, .inl (K.1, 62, .inl fS)), (aB, .inl (K.1, 62, .inl fB))] ∧ va_S A s.heap H locs ∧ lv_has ls 3 [(2, .int (nI i)), (1, .int (bd_cs fL fS fB i)), (0, .ref h0)]) (fun (i : Nat) => cnt - i) (fun z H locs ls hI ih => ?_) 0 ⟨Nat.zero_le _, hP, hD, hS, lv_sub hl [0, 1, 2] rfl⟩
  obtain ⟨i, rfl⟩ : ∃ y, y = z := ⟨_, rfl⟩
  obtain ⟨hi, hP, hD, hS, hl⟩ := hI
  have hP : va_P D vwCl [(h0, .inr (1, [.long seed, .ref hM, .ref hO, .int (nI cnt), .ref aS, .ref aA, .ref aB, .ref aN, .ref aM, .ref aL, .int vb, .int vs, .ref aT, .int tl])), (aL, .inl (K.2.1, 62, .inl fL)), (aS, .inl (K.1, 62, .inl fS)), (aB, .inl (K.1, 62, .inl fB))] H := hP
  have hD : va_D A [(h0, .inr (1, [.long seed, .ref hM, .ref hO, .int (nI cnt), .ref aS, .ref aA, .ref aB, .ref aN, .ref aM, .ref aL, .int vb, .int vs, .ref aT, .int tl])), (aL, .inl (K.2.1, 62, .inl fL)), (aS, .inl (K.1, 62, .inl fS)), (aB, .inl (K.1, 62, .inl fB))] := hD
  have hl : lv_has ls 3 [(2, .int (nI i)), (1, .int (bd_cs fL fS fB i)), (0, .ref h0)] := hl
  refine lv_iload_n hx hb d_B_commonSet_6 rfl (lv_at hl 0 rfl) ?_
  refine lv_aload_n hx hb d_B_commonSet_7 rfl (lv_at hl 2 rfl) ?_
  refine va_get (D := D) (ci := 1) (v := .int (nI cnt)) (C := "BuildDrawer") (T := TB) (N := 14) hx hb hw inB hown hK hP 0 rfl rfl 3 (by decide) (hw _ k_59) (fun _ h9 => h9) rfl d_B_commonSet_8 ?_
  refine lv_icmp_ge (tgt := 54) hx hb d_B_commonSet_11 (by decide) (fun r_11 => ?_) (fun r_11 => ?_)
  · have c_11 := (nI_leI (a := cnt) (b := i) (by omega) (by omega)).mp r_11
    refine lv_iload_n hx hb d_B_commonSet_54 rfl (lv_at hl 1 rfl) ?_
    exact cx_iret hx hb hr hlocks hK hP hD hS d_B_commonSet_55 (by rw [show i = cnt by omega]) (rfl)
  · have c_11 := mt (nI_leI (a := cnt) (b := i) (by omega) (by omega)).mpr r_11
    refine lv_iload_n hx hb d_B_commonSet_14 rfl (lv_at hl 0 rfl) ?_
    refine lv_bipush (v := 62) hx hb d_B_commonSet_15 (by decide) ?_
    refine lv_icmp_ge (tgt := 54) hx hb d_B_commonSet_17 (by decide) (fun r_17 => ?_) (fun r_17 => ?_)
    · have c_17 := (nI_leI (a := 62) (b := i) (by omega) (by omega)).mp r_17
      omega
    · have c_17 := mt (nI_leI (a := 62) (b := i) (by omega) (by omega)).mpr r_17
      refine lv_aload_n hx hb d_B_commonSet_20 rfl (lv_at hl 2 rfl) ?_
      refine va_get (D := D) (ci := 1) (v := .ref aL) (C := "BuildDrawer") (T := TB) (N := 14) hx hb hw inB hown hK hP 0 rfl rfl 9 (by decide) (hw _ k_65) (fun _ h9 => h9) rfl d_B_commonSet_21 ?_
      refine lv_iload_n hx hb d_B_commonSet_24 rfl (lv_at hl 0 rfl) ?_
      refine va_zald hx hb hK hP 1 1 rfl rfl (vp_in_nI (n := i) (by omega) (by omega)) d_B_commonSet_25 ?_
      refine cx_ti (y := fL i) (by rw [nI_clamp (by omega)]) ?_
      refine lv_if_eq (tgt := 48) hx hb d_B_commonSet_26 (by decide) (fun r_26 => ?_) (fun r_26 => ?_)
      · have c_26 := r_26
        have e_i : bd_cs fL fS fB (i + 1) = bd_cs fL fS fB i := by rw [bd_cs, if_pos r_26]
        rw [← e_i] at hl
        refine lv_iinc (v := nI (i + 1)) (lv' := [(2, .int (nI (i + 1))), (1, .int (bd_cs fL fS fB (i + 1))), (0, .ref h0)]) hx hb d_B_commonSet_48 hl (k := 0) rfl (by exact cx_inc i) (by decide) rfl (fun ls hl => ?_)
        refine lv_goto (tgt := 6) hx hb d_B_commonSet_51 (by decide) ?_
        exact ih (i + 1) _ _ _ ⟨(by omega), hP, hD, hS, lv_sub hl [0, 1, 2] rfl⟩ (by omega)
      · have c_26 := r_26
        refine lv_aload_n hx hb d_B_commonSet_29 rfl (lv_at hl 2 rfl) ?_
        refine va_get (D := D) (ci := 1) (v := .ref aS) (C := "BuildDrawer") (T := TB) (N := 14) hx hb hw inB hown hK hP 0 rfl rfl 4 (by decide) (hw _ k_60) (fun _ h9 => h9) rfl d_B_commonSet_30 ?_
        refine lv_iload_n hx hb d_B_commonSet_33 rfl (lv_at hl 0 rfl) ?_
        refine va_iald hx hb hK hP 2 0 rfl rfl (vp_in_nI (n := i) (by omega) (by omega)) d_B_commonSet_34 ?_
        refine cx_ti (y := fS i) (by rw [nI_clamp (by omega)]) ?_
        refine lv_iconst (v := 2) hx hb d_B_commonSet_35 (by decide) ?_
        refine lv_icmp_ne (tgt := 48) hx hb d_B_commonSet_36 (by decide) (fun r_36 => ?_) (fun r_36 => ?_)
        · have c_36 := r_36
          have e_i : bd_cs fL fS fB (i + 1) = bd_cs fL fS fB i := by rw [bd_cs, if_neg r_26, if_neg r_36]
          rw [← e_i] at hl
          refine lv_iinc (v := nI (i + 1)) (lv' := [(2, .int (nI (i + 1))), (1, .int (bd_cs fL fS fB (i + 1))), (0, .ref h0)]) hx hb d_B_commonSet_48 hl (k := 0) rfl (by exact cx_inc i) (by decide) rfl (fun ls hl => ?_)
          refine lv_goto (tgt := 6) hx hb d_B_commonSet_51 (by decide) ?_
          exact ih (i + 1) _ _ _ ⟨(by omega), hP, hD, hS, lv_sub hl [0, 1, 2] rfl⟩ (by omega)
        · have c_36 := r_36
          have e_i : bd_cs fL fS fB (i + 1) = bd_cs fL fS fB i &&& fB i := by rw [bd_cs, if_neg r_26, if_pos r_36]
          refine lv_iload_n hx hb d_B_commonSet_39 rfl (lv_at hl 1 rfl) ?_
          refine lv_aload_n hx hb d_B_commonSet_40 rfl (lv_at hl 2 rfl) ?_
          refine va_get (D := D) (ci := 1) (v := .ref aB) (C := "BuildDrawer") (T := TB) (N := 14) hx hb hw inB hown hK hP 0 rfl rfl 6 (by decide) (hw _ k_62) (fun _ h9 => h9) rfl d_B_commonSet_41 ?_
          refine lv_iload_n hx hb d_B_commonSet_44 rfl (lv_at hl 0 rfl) ?_
          refine va_iald hx hb hK hP 3 0 rfl rfl (vp_in_nI (n := i) (by omega) (by omega)) d_B_commonSet_45 ?_
          refine cx_ti (y := fB i) (by rw [nI_clamp (by omega)]) ?_
          refine lv_iand hx hb d_B_commonSet_46 ?_
          refine lv_istore_n (lv' := [(1, .int ((bd_cs fL fS fB i) &&& (fB i))), (2, .int (nI i)), (0, .ref h0)]) hx hb d_B_commonSet_47 rfl hl (by decide) rfl (fun ls hl => ?_)
          rw [← e_i] at hl
          refine lv_iinc (v := nI (i + 1)) (lv' := [(2, .int (nI (i + 1))), (1, .int (bd_cs fL fS fB (i + 1))), (0, .ref h0)]) hx hb d_B_commonSet_48 hl (k := 1) rfl (by exact cx_inc i) (by decide) rfl (fun ls hl => ?_)
          refine lv_goto (tgt := 6) hx hb d_B_commonSet_51 (by decide) ?_
          exact ih (i + 1) _ _ _ ⟨(by omega), hP, hD, hS, lv_sub hl [0, 1, 2] rfl⟩ (by omega)
set_option maxHeartbeats 4000000 in
set_option maxRecDepth 100000 in
theorem c_B_holdsOf (l : Launch) (G : cx_G) (D : va_G) (K : cx_KT) (sz : Nat) (h0 : Nat) (seed : Int64) (hM : Nat) (hO : Nat) (cnt : Nat) (aS : Nat) (aA : Nat) (aB : Nat) (aN : Nat) (aM : Nat) (aL : Nat) (vb : Int32) (vs : Int32) (aT : Nat) (tl : Int32) (t : Int32)  : Met l y_B_holdsOf w_B_holdsOf ({ frames := 0, cells := 0, slots := 0, locals := 0 }) (cx_Pc G D (cx_ty K) [(h0, .inr (1, [.long seed, .ref hM, .ref hO, .int (nI cnt), .ref aS, .ref aA, .ref aB, .ref aN, .ref aM, .ref aL, .int vb, .int vs, .ref aT, .int tl]))] sz [.ref h0, .int t]) (cx_Qi (bd_ho vb vs t) D (cx_ty K) [(h0, .inr (1, [.long seed, .ref hM, .ref hO, .int (nI cnt), .ref aS, .ref aA, .ref aB, .ref aN, .ref aM, .ref aL, .int vb, .int vs, .ref aT, .int tl]))] (va_A [(h0, .inr (1, [.long seed, .ref hM, .ref hO, .int (nI cnt), .ref aS, .ref aA, .ref aB, .ref aN, .ref aM, .ref aL, .int vb, .int vs, .ref aT, .int tl]))] sz)) 0 0 (va_A [(h0, .inr (1, [.long seed, .ref hM, .ref hO, .int (nI cnt), .ref aS, .ref aA, .ref aB, .ref aN, .ref aM, .ref aL, .int vb, .int vs, .ref aT, .int tl]))] sz) := by
  refine Met.ofW (cc := prog_1_method_16_code) (maxL := 3) (ret := (some .boolean)) (by decide) rfl ?_
  intro p e s m args below meth c s₁ B hml hv
  obtain ⟨rfl, hsz, hP, hK, hD0, hE⟩ := hv
  have hx := B.exec
  have hb := B.bytes
  have hr := B.returns
  have hts := atoms_spec (ws := w_B_holdsOf) B.pre
  have hw : ∀ w ∈ cw, w.before _ s = true := fun w h => hts w (List.mem_cons_of_mem _ h)
  have hown : s.vm.findClass "BuildDrawer" = some m.cls := findClass_of_methodNamed B.named
  have hlocks := B.notSynchronized
  subst hsz
  have hD := hD0.self (sz := s.heap.size)
  generalize hAe : va_A [(h0, .inr (1, [.long seed, .ref hM, .ref hO, .int (nI cnt), .ref aS, .ref aA, .ref aB, .ref aN, .ref aM, .ref aL, .int vb, .int vs, .ref aT, .int tl]))] s.heap.size = A at hD hE ⊢
  have hA : ∀ q : Nat, s.heap.size ≤ q → A q := fun q h => by rw [← hAe]; exact Or.inr h
  have hS : va_S A s.heap s.heap [] := va_S.rf
  have hl := lv_entry ([.ref h0, .int t]) (n := 3) (Nat.le_of_ble_eq_true rfl)
  rw [lg_entry_eq]
  generalize (lg_sl ([.ref h0, .int t]) ++ List.replicate (3 - (lg_sl ([.ref h0, .int t])).length) Slot.unset).toArray = ls at hl ⊢
  have hl : lv_has ls 3 [(0, .ref h0), (1, .int t)] := hl
  refine lv_aload_n hx hb d_B_holdsOf_0 rfl (lv_at hl 0 rfl) ?_
  refine va_get (D := D) (ci := 1) (v := .int vb) (C := "BuildDrawer") (T := TB) (N := 14) hx hb hw inB hown hK hP 0 rfl rfl 10 (by decide) (hw _ k_66) (fun _ h9 => h9) rfl d_B_holdsOf_1 ?_
  refine lv_iload_n hx hb d_B_holdsOf_4 rfl (lv_at hl 1 rfl) ?_
  refine lv_iconst (v := (-1)) hx hb d_B_holdsOf_5 (by decide) ?_
  refine lv_ixor hx hb d_B_holdsOf_6 ?_
  refine lv_iand hx hb d_B_holdsOf_7 ?_
  refine lv_if_ne (tgt := 15) hx hb d_B_holdsOf_8 (by decide) (fun r_8 => ?_) (fun r_8 => ?_)
  · have c_8 := r_8
    refine lv_iconst (v := 0) hx hb d_B_holdsOf_15 (by decide) ?_
    refine lv_istore_n (lv' := [(2, .int 0), (0, .ref h0), (1, .int t)]) hx hb d_B_holdsOf_16 rfl hl (by decide) rfl (fun ls hl => ?_)
    refine lv_iload_n hx hb d_B_holdsOf_17 rfl (lv_at hl 0 rfl) ?_
    refine lv_aload_n hx hb d_B_holdsOf_18 rfl (lv_at hl 1 rfl) ?_
    refine va_get (D := D) (ci := 1) (v := .int vs) (C := "BuildDrawer") (T := TB) (N := 14) hx hb hw inB hown hK hP 0 rfl rfl 11 (by decide) (hw _ k_67) (fun _ h9 => h9) rfl d_B_holdsOf_19 ?_
    refine lv_icmp_ne (tgt := 29) hx hb d_B_holdsOf_22 (by decide) (fun r_22 => ?_) (fun r_22 => ?_)
    · have c_22 := r_22
      refine lv_iconst (v := 0) hx hb d_B_holdsOf_29 (by decide) ?_
      exact cx_zret hx hb hr hlocks hK hP hD hS d_B_holdsOf_30 (rfl) (by simp only [bd_ho, if_neg r_8, if_neg r_22]) (rfl)
    · have c_22 := r_22
      refine lv_iconst (v := 1) hx hb d_B_holdsOf_25 (by decide) ?_
      refine lv_goto (tgt := 30) hx hb d_B_holdsOf_26 (by decide) ?_
      exact cx_zret hx hb hr hlocks hK hP hD hS d_B_holdsOf_30 (rfl) (by simp only [bd_ho, if_neg r_8, if_pos r_22]) (rfl)
  · have c_8 := r_8
    refine lv_iconst (v := 1) hx hb d_B_holdsOf_11 (by decide) ?_
    refine lv_goto (tgt := 16) hx hb d_B_holdsOf_12 (by decide) ?_
    refine lv_istore_n (lv' := [(2, .int 1), (0, .ref h0), (1, .int t)]) hx hb d_B_holdsOf_16 rfl hl (by decide) rfl (fun ls hl => ?_)
    refine lv_iload_n hx hb d_B_holdsOf_17 rfl (lv_at hl 0 rfl) ?_
    refine lv_aload_n hx hb d_B_holdsOf_18 rfl (lv_at hl 1 rfl) ?_
    refine va_get (D := D) (ci := 1) (v := .int vs) (C := "BuildDrawer") (T := TB) (N := 14) hx hb hw inB hown hK hP 0 rfl rfl 11 (by decide) (hw _ k_67) (fun _ h9 => h9) rfl d_B_holdsOf_19 ?_
    refine lv_icmp_ne (tgt := 29) hx hb d_B_holdsOf_22 (by decide) (fun r_22 => ?_) (fun r_22 => ?_)
    · have c_22 := r_22
      refine lv_iconst (v := 0) hx hb d_B_holdsOf_29 (by decide) ?_
      exact cx_zret hx hb hr hlocks hK hP hD hS d_B_holdsOf_30 (rfl) (by simp only [bd_ho, if_pos r_8, if_neg r_22]) (rfl)
    · have c_22 := r_22
      refine lv_iconst (v := 1) hx hb d_B_holdsOf_25 (by decide) ?_
      refine lv_goto (tgt := 30) hx hb d_B_holdsOf_26 (by decide) ?_
      exact cx_zret hx hb hr hlocks hK hP hD hS d_B_holdsOf_30 (rfl) (by simp only [bd_ho, if_pos r_8, if_pos r_22]) (rfl)
set_option maxHeartbeats 4000000 in
set_option maxRecDepth 100000 in
theorem c_B_verdict (l : Launch) (G : cx_G) (D : va_G) (K : cx_KT) (sz : Nat) (h0 : Nat) (seed : Int64) (hM : Nat) (hO : Nat) (cnt : Nat) (aS : Nat) (aA : Nat) (aB : Nat) (aN : Nat) (aM : Nat) (aL : Nat) (vb : Int32) (vs : Int32) (aT : Nat) (tl : Int32) (b : Int32) (z : Int32) (hz : z = 0 ∨ z = 1) : Met l y_B_verdict w_B_verdict ({ frames := 0, cells := 0, slots := 0, locals := 0 }) (cx_Pc G D (cx_ty K) [(h0, .inr (1, [.long seed, .ref hM, .ref hO, .int (nI cnt), .ref aS, .ref aA, .ref aB, .ref aN, .ref aM, .ref aL, .int vb, .int vs, .ref aT, .int tl]))] sz [.ref h0, .int b, .int z]) (cx_Qv D (cx_ty K) [(h0, .inr (1, [.long seed, .ref hM, .ref hO, .int (nI cnt), .ref aS, .ref aA, .ref aB, .ref aN, .ref aM, .ref aL, .int (b &&& 255), .int z, .ref aT, .int tl]))] (va_A [(h0, .inr (1, [.long seed, .ref hM, .ref hO, .int (nI cnt), .ref aS, .ref aA, .ref aB, .ref aN, .ref aM, .ref aL, .int vb, .int vs, .ref aT, .int tl]))] sz)) 0 0 (va_A [(h0, .inr (1, [.long seed, .ref hM, .ref hO, .int (nI cnt), .ref aS, .ref aA, .ref aB, .ref aN, .ref aM, .ref aL, .int vb, .int vs, .ref aT, .int tl]))] sz) := by
  refine Met.ofW (cc := prog_1_method_5_code) (maxL := 3) (ret := none) (by decide) rfl ?_
  intro p e s m args below meth c s₁ B hml hv
  obtain ⟨rfl, hsz, hP, hK, hD0, hE⟩ := hv
  have hx := B.exec
  have hb := B.bytes
  have hr := B.returns
  have hts := atoms_spec (ws := w_B_verdict) B.pre
  have hw : ∀ w ∈ cw, w.before _ s = true := fun w h => hts w (List.mem_cons_of_mem _ h)
  have hown : s.vm.findClass "BuildDrawer" = some m.cls := findClass_of_methodNamed B.named
  have hlocks := B.notSynchronized
  subst hsz
  have hD := hD0.self (sz := s.heap.size)
  generalize hAe : va_A [(h0, .inr (1, [.long seed, .ref hM, .ref hO, .int (nI cnt), .ref aS, .ref aA, .ref aB, .ref aN, .ref aM, .ref aL, .int vb, .int vs, .ref aT, .int tl]))] s.heap.size = A at hD hE ⊢
  have hA : ∀ q : Nat, s.heap.size ≤ q → A q := fun q h => by rw [← hAe]; exact Or.inr h
  have hS : va_S A s.heap s.heap [] := va_S.rf
  have hl := lv_entry ([.ref h0, .int b, .int z]) (n := 3) (Nat.le_of_ble_eq_true rfl)
  rw [lg_entry_eq]
  generalize (lg_sl ([.ref h0, .int b, .int z]) ++ List.replicate (3 - (lg_sl ([.ref h0, .int b, .int z])).length) Slot.unset).toArray = ls at hl ⊢
  have hl : lv_has ls 3 [(0, .ref h0), (1, .int b), (2, .int z)] := hl
  refine lv_aload_n hx hb d_B_verdict_0 rfl (lv_at hl 0 rfl) ?_
  refine lv_iload_n hx hb d_B_verdict_1 rfl (lv_at hl 1 rfl) ?_
  refine lv_sipush (v := 255) hx hb d_B_verdict_2 (by decide) ?_
  refine lv_iand hx hb d_B_verdict_5 ?_
  refine va_put (D := D) (ci := 1) (v := .int (b &&& 255)) (ty := .int) (C := "BuildDrawer") (T := TB) (N := 14) hx hb hw inB tyB tyB_ok nmB hown hK hP hD hS 0 rfl rfl 10 (by decide) (hw _ k_66) (fun _ h9 => h9) rfl (by decide +kernel) rfl rfl (Nat.le_of_ble_eq_true rfl) d_B_verdict_6 (fun H locs hP hD hS => ?_)
  have hP : va_P D vwCl [(h0, .inr (1, [.long seed, .ref hM, .ref hO, .int (nI cnt), .ref aS, .ref aA, .ref aB, .ref aN, .ref aM, .ref aL, .int (b &&& 255), .int vs, .ref aT, .int tl]))] H := hP
  have hD : va_D A [(h0, .inr (1, [.long seed, .ref hM, .ref hO, .int (nI cnt), .ref aS, .ref aA, .ref aB, .ref aN, .ref aM, .ref aL, .int (b &&& 255), .int vs, .ref aT, .int tl]))] := hD
  refine lv_aload_n hx hb d_B_verdict_9 rfl (lv_at hl 0 rfl) ?_
  refine lv_iload_n hx hb d_B_verdict_10 rfl (lv_at hl 2 rfl) ?_
  refine va_put (D := D) (ci := 1) (v := .int z) (ty := .boolean) (C := "BuildDrawer") (T := TB) (N := 14) hx hb hw inB tyB tyB_ok nmB hown hK hP hD hS 0 rfl rfl 11 (by decide) (hw _ k_67) (fun _ h9 => h9) rfl (by decide +kernel) (bd_01 hz).1 (bd_01 hz).2 (Nat.le_of_ble_eq_true rfl) d_B_verdict_11 (fun H locs hP hD hS => ?_)
  have hP : va_P D vwCl [(h0, .inr (1, [.long seed, .ref hM, .ref hO, .int (nI cnt), .ref aS, .ref aA, .ref aB, .ref aN, .ref aM, .ref aL, .int (b &&& 255), .int z, .ref aT, .int tl]))] H := hP
  have hD : va_D A [(h0, .inr (1, [.long seed, .ref hM, .ref hO, .int (nI cnt), .ref aS, .ref aA, .ref aB, .ref aN, .ref aM, .ref aL, .int (b &&& 255), .int z, .ref aT, .int tl]))] := hD
  exact cx_vret hx hb hr hlocks hK hP hD hS d_B_verdict_14 (rfl)
end
section
/-- left(i): n parts are still to be looked at, from j on; b are counted -/
def bd_lg (f : Nat → Int32) (i : Int32) : Nat → Nat → Int32 → Int32
  | 0, _, _ => -1
  | n + 1, j, b => if f j = 0 then bd_lg f i n (j + 1) b else if b = i then nI j else bd_lg f i n (j + 1) (b + 1)
def bd_left (f : Nat → Int32) (cnt : Nat) (i : Int32) : Int32 := if i < 0 then -1 else bd_lg f i cnt 0 0
def bd_mi (c : Nat → Int32) : Nat → Nat → Int32
  | 0, _ => 1
  | n + 1, j => if c j = 0 then bd_mi c n (j + 1) else 0
theorem bd_mi_01 (c : Nat → Int32) : ∀ n j, bd_mi c n j = 0 ∨ bd_mi c n j = 1 := by
  intro n
  induction n with
  | zero => intro j; exact Or.inr rfl
  | succ n ih => intro j; rw [bd_mi]; split; exact ih _; exact Or.inl rfl
/-- from the last of k parts to the first each that can go goes -/
def bd_lo (c : (Nat → Int32) → Nat → Int32) : Nat → (Nat → Int32) → Int32 → (Nat → Int32) × Int32
  | 0, f, w => (f, w)
  | k + 1, f, w => if c f k = 0 then bd_lo c k f w else bd_lo c k (upd f k 0) 1
theorem bd_lo_01 (c : (Nat → Int32) → Nat → Int32) : ∀ k f w, (w = 0 ∨ w = 1) → (bd_lo c k f w).2 = 0 ∨ (bd_lo c k f w).2 = 1 := by
  intro k
  induction k with
  | zero => intro f w h; exact h
  | succ k ih => intro f w h; rw [bd_lo]; split; exact ih _ _ h; exact ih _ _ (Or.inr rfl)
def bd_la (r : (Nat → Int32) → (Nat → Int32) × Int32) : Nat → (Nat → Int32) → Int32 → (Nat → Int32)
  | 0, f, _ => f
  | n + 1, f, a => if a = 0 then f else bd_la r n (r f).1 (r f).2
def bd_sh (fL fN fM : Nat → Int32) (vb vs : Int32) (cnt : Nat) : Nat → Int32 := if bd_ho vb vs (bd_ml fL fM cnt) = 0 then bd_all cnt fL else bd_la (fun f => bd_lo (fun f k => bd_cg f fN fM vb vs cnt k) cnt f 0) 63 fL 1
theorem bd_nar0 : vp_nar .boolean 0 = 0 := rfl
set_option maxHeartbeats 4000000 in
set_option maxRecDepth 100000 in
theorem c_B_canGo (l : Launch) (G : cx_G) (D : va_G) (K : cx_KT) (sz : Nat) (h0 : Nat) (seed : Int64) (hM : Nat) (hO : Nat) (cnt : Nat) (aS : Nat) (aA : Nat) (aB : Nat) (aN : Nat) (aM : Nat) (aL : Nat) (vb : Int32) (vs : Int32) (aT : Nat) (tl : Int32) (fL : Nat → Int32) (fN : Nat → Int32) (fM : Nat → Int32) (k : Nat) (hcnt : cnt ≤ 62) (hk : k < cnt) : Met l y_B_canGo w_B_canGo ({ frames := 1, cells := 0, slots := 0, locals := 22 }) (cx_Pc G D (cx_ty K) [(h0, .inr (1, [.long seed, .ref hM, .ref hO, .int (nI cnt), .ref aS, .ref aA, .ref aB, .ref aN, .ref aM, .ref aL, .int vb, .int vs, .ref aT, .int tl])), (aL, .inl (K.2.1, 62, .inl fL)), (aN, .inl (K.1, 62, .inl fN)), (aM, .inl (K.1, 62, .inl fM))] sz [.ref h0, .int (nI k)]) (cx_Qi (bd_cg fL fN fM vb vs cnt k) D (cx_ty K) [(h0, .inr (1, [.long seed, .ref hM, .ref hO, .int (nI cnt), .ref aS, .ref aA, .ref aB, .ref aN, .ref aM, .ref aL, .int vb, .int vs, .ref aT, .int tl])), (aL, .inl (K.2.1, 62, .inl fL)), (aN, .inl (K.1, 62, .inl fN)), (aM, .inl (K.1, 62, .inl fM))] (va_A [(h0, .inr (1, [.long seed, .ref hM, .ref hO, .int (nI cnt), .ref aS, .ref aA, .ref aB, .ref aN, .ref aM, .ref aL, .int vb, .int vs, .ref aT, .int tl])), (aL, .inl (K.2.1, 62, .inl fL)), (aN, .inl (K.1, 62, .inl fN)), (aM, .inl (K.1, 62, .inl fM))] sz)) 0 0 (va_A [(h0, .inr (1, [.long seed, .ref hM, .ref hO, .int (nI cnt), .ref aS, .ref aA, .ref aB, .ref aN, .ref aM, .ref aL, .int vb, .int vs, .ref aT, .int tl])), (aL, .inl (K.2.1, 62, .inl fL)), (aN, .inl (K.1, 62, .inl fN)), (aM, .inl (K.1, 62, .inl fM))] sz) := by
  refine Met.ofW (cc := prog_1_method_17_code) (maxL := 4) (ret := (some .boolean)) (by decide) rfl ?_
  intro p e s m args below meth c s₁ B hml hv
  obtain ⟨rfl, hsz, hP, hK, hD0, hE⟩ := hv
  have hx := B.exec
  have hb := B.bytes
  have hr := B.returns
  have hts := atoms_spec (ws := w_B_canGo) B.pre
  have hw : ∀ w ∈ cw, w.before _ s = true := fun w h => hts w (List.mem_cons_of_mem _ h)
  have hown : s.vm.findClass "BuildDrawer" = some m.cls := findClass_of_methodNamed B.named
  have hlocks := B.notSynchronized
  subst hsz
  have hD := hD0.self (sz := s.heap.size)
  generalize hAe : va_A [(h0, .inr (1, [.long seed, .ref hM, .ref hO, .int (nI cnt), .ref aS, .ref aA, .ref aB, .ref aN, .ref aM, .ref aL, .int vb, .int vs, .ref aT, .int tl])), (aL, .inl (K.2.1, 62, .inl fL)), (aN, .inl (K.1, 62, .inl fN)), (aM, .inl (K.1, 62, .inl fM))] s.heap.size = A at hD hE ⊢
  have hA : ∀ q : Nat, s.heap.size ≤ q → A q := fun q h => by rw [← hAe]; exact Or.inr h
  have hS : va_S A s.heap s.heap [] := va_S.rf
  have hl := lv_entry ([.ref h0, .int (nI k)]) (n := 4) (Nat.le_of_ble_eq_true rfl)
  rw [lg_entry_eq]
  generalize (lg_sl ([.ref h0, .int (nI k)]) ++ List.replicate (4 - (lg_sl ([.ref h0, .int (nI k)])).length) Slot.unset).toArray = ls at hl ⊢
  have hl : lv_has ls 4 [(0, .ref h0), (1, .int (nI k))] := hl
  refine lv_aload_n hx hb d_B_canGo_0 rfl (lv_at hl 0 rfl) ?_
  refine lv_iload_n hx hb d_B_canGo_1 rfl (lv_at hl 1 rfl) ?_
  refine cx_ci (wr := [(aL, .inl (K.2.1, 62, .inl fL)), (aN, .inl (K.1, 62, .inl fN)), (aM, .inl (K.1, 62, .inl fM))]) (wN := [(h0, .inr (1, [.long seed, .ref hM, .ref hO, .int (nI cnt), .ref aS, .ref aA, .ref aB, .ref aN, .ref aM, .ref aL, .int vb, .int vs, .ref aT, .int tl])), (aL, .inl (K.2.1, 62, .inl fL)), (aN, .inl (K.1, 62, .inl fN)), (aM, .inl (K.1, 62, .inl fM))]) (va_runV (As := [.int (nI k)]) (rest := []) ⟨hx, hb, hml, hown, hw⟩ (c_B_isPart l G D K s.heap.size h0 seed hM hO cnt aS aA aB aN aM aL vb vs aT tl (nI k)) (cwV 1 hw (cx_gV k_153 k_155 ks_B_isPart k_1 k_156) rfl rfl rfl (by decide +kernel) ⟨Nat.le_of_ble_eq_true rfl, Nat.le_of_ble_eq_true rfl⟩) (cx_preV (q0 := 0) (ci := 1) hK hP hD hS hA hE rfl rfl [0] rfl rfl (by decide)) rfl rfl hl.1 rfl (lv_room (Nat.le_of_ble_eq_true rfl)) d_B_canGo_2 ⟨Nat.le_of_ble_eq_true rfl, Nat.le_of_ble_eq_true rfl⟩) hP hD hS hA [0] [1, 2, 3] rfl rfl (by decide) (by decide) [3, 0, 1, 2] rfl rfl (by decide) (fun H locs hP hD hS => ?_)
  refine cx_ti (y := 1) (bd_ip_in hcnt hk) ?_
  refine lv_if_eq (tgt := 17) hx hb d_B_canGo_5 (by decide) (fun r_5 => ?_) (fun r_5 => ?_)
  · have c_5 := r_5
    exact absurd r_5 (by decide)
  · have c_5 := r_5
    refine lv_aload_n hx hb d_B_canGo_8 rfl (lv_at hl 0 rfl) ?_
    refine va_get (D := D) (ci := 1) (v := .ref aL) (C := "BuildDrawer") (T := TB) (N := 14) hx hb hw inB hown hK hP 0 rfl rfl 9 (by decide) (hw _ k_65) (fun _ h9 => h9) rfl d_B_canGo_9 ?_
    refine lv_iload_n hx hb d_B_canGo_12 rfl (lv_at hl 1 rfl) ?_
    refine va_zald hx hb hK hP 1 1 rfl rfl (vp_in_nI (n := k) (by omega) (by omega)) d_B_canGo_13 ?_
    refine cx_ti (y := fL k) (by rw [nI_clamp (by omega)]) ?_
    refine lv_if_ne (tgt := 19) hx hb d_B_canGo_14 (by decide) (fun r_14 => ?_) (fun r_14 => ?_)
    · have c_14 := r_14
      refine lv_iconst (v := 0) hx hb d_B_canGo_19 (by decide) ?_
      refine lv_istore_n (lv' := [(2, .int 0), (0, .ref h0), (1, .int (nI k))]) hx hb d_B_canGo_20 rfl hl (by decide) rfl (fun ls hl => ?_)
      refine lv_iconst (v := 0) hx hb d_B_canGo_21 (by decide) ?_
      refine lv_istore_n (lv' := [(3, .int 0), (2, .int 0), (0, .ref h0), (1, .int (nI k))]) hx hb d_B_canGo_22 rfl hl (by decide) rfl (fun ls hl => ?_)
      refine cx_loop (pc := 23) (st := []) (fun (j : Nat) H locs ls => (j ≤ cnt) ∧ (bd_nx fL fN k j = false) ∧ va_P D vwCl [(h0, .inr (1, [.long seed, .ref hM, .ref hO, .int (nI cnt), .ref aS, .ref aA, .ref aB, .ref aN, .ref aM, .ref aL, .int vb, .int vs, .ref aT, .int tl])), (aL, .inl (K.2.1, 62, .inl fL)), (aN, .inl (K.1, 62, .inl fN)), (aM, .inl (K.1, 62, .inl fM))] H ∧ va_D A [(h0, .inr (1, [.long seed, .ref hM, .ref hO, .int (nI cnt), .ref aS, .ref aA, .ref aB, .ref aN, .ref aM, .ref aL, .int vb, .int vs, .ref aT, .int tl])), (aL, .inl (K.2.1, 62, .inl fL)), (aN, .inl (K.1, 62, .inl fN)), (aM, .inl (K.1, 62, .inl fM))] ∧ va_S A s.heap H locs ∧ lv_has ls 4 [(3, .int (nI j)), (2, .int (bd_wo fL fM k j)), (1, .int (nI k)), (0, .ref h0)]) (fun (j : Nat) => cnt - j) (fun z H locs ls hI ih => ?_) 0 ⟨Nat.zero_le _, rfl, hP, hD, hS, lv_sub hl [0, 1, 3, 2] rfl⟩
      obtain ⟨j, rfl⟩ : ∃ y, y = z := ⟨_, rfl⟩
      obtain ⟨hj, hnx, hP, hD, hS, hl⟩ := hI
      have hP : va_P D vwCl [(h0, .inr (1, [.long seed, .ref hM, .ref hO, .int (nI cnt), .ref aS, .ref aA, .ref aB, .ref aN, .ref aM, .ref aL, .int vb, .int vs, .ref aT, .int tl])), (aL, .inl (K.2.1, 62, .inl fL)), (aN, .inl (K.1, 62, .inl fN)), (aM, .inl (K.1, 62, .inl fM))] H := hP
      have hD : va_D A [(h0, .inr (1, [.long seed, .ref hM, .ref hO, .int (nI cnt), .ref aS, .ref aA, .ref aB, .ref aN, .ref aM, .ref aL, .int vb, .int vs, .ref aT, .int tl])), (aL, .inl (K.2.1, 62, .inl fL)), (aN, .inl (K.1, 62, .inl fN)), (aM, .inl (K.1, 62, .inl fM))] := hD
      have hl : lv_has ls 4 [(3, .int (nI j)), (2, .int (bd_wo fL fM k j)), (1, .int (nI k)), (0, .ref h0)] := hl
      refine lv_iload_n hx hb d_B_canGo_23 rfl (lv_at hl 0 rfl) ?_
      refine lv_aload_n hx hb d_B_canGo_24 rfl (lv_at hl 3 rfl) ?_
      refine va_get (D := D) (ci := 1) (v := .int (nI cnt)) (C := "BuildDrawer") (T := TB) (N := 14) hx hb hw inB hown hK hP 0 rfl rfl 3 (by decide) (hw _ k_59) (fun _ h9 => h9) rfl d_B_canGo_25 ?_
      refine lv_icmp_ge (tgt := 78) hx hb d_B_canGo_28 (by decide) (fun r_28 => ?_) (fun r_28 => ?_)
      · have c_28 := (nI_leI (a := cnt) (b := j) (by omega) (by omega)).mp r_28
        refine lv_aload_n hx hb d_B_canGo_78 rfl (lv_at hl 3 rfl) ?_
        refine lv_iload_n hx hb d_B_canGo_79 rfl (lv_at hl 1 rfl) ?_
        refine cx_ci (wr := [(aL, .inl (K.2.1, 62, .inl fL)), (aN, .inl (K.1, 62, .inl fN)), (aM, .inl (K.1, 62, .inl fM))]) (wN := [(h0, .inr (1, [.long seed, .ref hM, .ref hO, .int (nI cnt), .ref aS, .ref aA, .ref aB, .ref aN, .ref aM, .ref aL, .int vb, .int vs, .ref aT, .int tl])), (aL, .inl (K.2.1, 62, .inl fL)), (aN, .inl (K.1, 62, .inl fN)), (aM, .inl (K.1, 62, .inl fM))]) (va_runV (As := [.int (bd_wo fL fM k j)]) (rest := []) ⟨hx, hb, hml, hown, hw⟩ (c_B_holdsOf l G D K H.size h0 seed hM hO cnt aS aA aB aN aM aL vb vs aT tl (bd_wo fL fM k j)) (cwV 1 hw (cx_gV k_258 k_260 ks_B_holdsOf k_1 k_261) rfl rfl rfl (by decide +kernel) ⟨Nat.le_of_ble_eq_true rfl, Nat.le_of_ble_eq_true rfl⟩) (cx_preV (q0 := 0) (ci := 1) hK hP hD hS hA hE rfl rfl [0] rfl rfl (by decide)) rfl rfl hl.1 rfl (lv_room (Nat.le_of_ble_eq_true rfl)) d_B_canGo_80 ⟨Nat.le_of_ble_eq_true rfl, Nat.le_of_ble_eq_true rfl⟩) hP hD hS hA [0] [1, 2, 3] rfl rfl (by decide) (by decide) [3, 0, 1, 2] rfl rfl (by decide) (fun H locs hP hD hS => ?_)
        exact cx_zret hx hb hr hlocks hK hP hD hS d_B_canGo_83 ((bd_01 (bd_ho_01 _ _ _)).1) (by rw [bd_cg, if_neg r_14, if_neg (by rw [← show j = cnt by omega, hnx]; decide), show j = cnt by omega]) (rfl)
      · have c_28 := mt (nI_leI (a := cnt) (b := j) (by omega) (by omega)).mpr r_28
        refine lv_iload_n hx hb d_B_canGo_31 rfl (lv_at hl 0 rfl) ?_
        refine lv_bipush (v := 62) hx hb d_B_canGo_32 (by decide) ?_
        refine lv_icmp_ge (tgt := 78) hx hb d_B_canGo_34 (by decide) (fun r_34 => ?_) (fun r_34 => ?_)
        · have c_34 := (nI_leI (a := 62) (b := j) (by omega) (by omega)).mp r_34
          omega
        · have c_34 := mt (nI_leI (a := 62) (b := j) (by omega) (by omega)).mpr r_34
          refine lv_iload_n hx hb d_B_canGo_37 rfl (lv_at hl 0 rfl) ?_
          refine lv_iload_n hx hb d_B_canGo_38 rfl (lv_at hl 2 rfl) ?_
          refine lv_icmp_eq (tgt := 72) hx hb d_B_canGo_39 (by decide) (fun r_39 => ?_) (fun r_39 => ?_)
          · have c_39 := (nI_eq (a := j) (b := k) (by omega) (by omega)).mp r_39
            have e_n := bd_nx_miss hnx (Or.inl c_39)
            have e_i : bd_wo fL fM k (j + 1) = bd_wo fL fM k j := by rw [bd_wo, if_pos c_39]
            rw [← e_i] at hl
            refine lv_iinc (v := nI (j + 1)) (lv' := [(3, .int (nI (j + 1))), (2, .int (bd_wo fL fM k (j + 1))), (1, .int (nI k)), (0, .ref h0)]) hx hb d_B_canGo_72 hl (k := 0) rfl (by exact cx_inc j) (by decide) rfl (fun ls hl => ?_)
            refine lv_goto (tgt := 23) hx hb d_B_canGo_75 (by decide) ?_
            exact ih (j + 1) _ _ _ ⟨(by omega), e_n, hP, hD, hS, lv_sub hl [0, 1, 2, 3] rfl⟩ (by omega)
          · have c_39 := mt (nI_eq (a := j) (b := k) (by omega) (by omega)).mpr r_39
            refine lv_aload_n hx hb d_B_canGo_42 rfl (lv_at hl 3 rfl) ?_
            refine va_get (D := D) (ci := 1) (v := .ref aL) (C := "BuildDrawer") (T := TB) (N := 14) hx hb hw inB hown hK hP 0 rfl rfl 9 (by decide) (hw _ k_65) (fun _ h9 => h9) rfl d_B_canGo_43 ?_
            refine lv_iload_n hx hb d_B_canGo_46 rfl (lv_at hl 0 rfl) ?_
            refine va_zald hx hb hK hP 1 1 rfl rfl (vp_in_nI (n := j) (by omega) (by omega)) d_B_canGo_47 ?_
            refine cx_ti (y := fL j) (by rw [nI_clamp (by omega)]) ?_
            refine lv_if_eq (tgt := 72) hx hb d_B_canGo_48 (by decide) (fun r_48 => ?_) (fun r_48 => ?_)
            · have c_48 := r_48
              have e_n := bd_nx_miss hnx (Or.inr (Or.inl r_48))
              have e_i : bd_wo fL fM k (j + 1) = bd_wo fL fM k j := by rw [bd_wo, if_neg c_39, if_pos r_48]
              rw [← e_i] at hl
              refine lv_iinc (v := nI (j + 1)) (lv' := [(3, .int (nI (j + 1))), (2, .int (bd_wo fL fM k (j + 1))), (1, .int (nI k)), (0, .ref h0)]) hx hb d_B_canGo_72 hl (k := 0) rfl (by exact cx_inc j) (by decide) rfl (fun ls hl => ?_)
              refine lv_goto (tgt := 23) hx hb d_B_canGo_75 (by decide) ?_
              exact ih (j + 1) _ _ _ ⟨(by omega), e_n, hP, hD, hS, lv_sub hl [0, 1, 2, 3] rfl⟩ (by omega)
            · have c_48 := r_48
              refine lv_aload_n hx hb d_B_canGo_51 rfl (lv_at hl 3 rfl) ?_
              refine va_get (D := D) (ci := 1) (v := .ref aN) (C := "BuildDrawer") (T := TB) (N := 14) hx hb hw inB hown hK hP 0 rfl rfl 7 (by decide) (hw _ k_63) (fun _ h9 => h9) rfl d_B_canGo_52 ?_
              refine lv_iload_n hx hb d_B_canGo_55 rfl (lv_at hl 0 rfl) ?_
              refine va_iald hx hb hK hP 2 0 rfl rfl (vp_in_nI (n := j) (by omega) (by omega)) d_B_canGo_56 ?_
              refine cx_ti (y := fN j) (by rw [nI_clamp (by omega)]) ?_
              refine lv_iload_n hx hb d_B_canGo_57 rfl (lv_at hl 2 rfl) ?_
              refine lv_icmp_ne (tgt := 63) hx hb d_B_canGo_58 (by decide) (fun r_58 => ?_) (fun r_58 => ?_)
              · have c_58 := r_58
                have e_n := bd_nx_miss hnx (Or.inr (Or.inr r_58))
                have e_i : bd_wo fL fM k (j + 1) = bd_wo fL fM k j ||| fM j := by rw [bd_wo, if_neg c_39, if_neg r_48]
                refine lv_iload_n hx hb d_B_canGo_63 rfl (lv_at hl 1 rfl) ?_
                refine lv_aload_n hx hb d_B_canGo_64 rfl (lv_at hl 3 rfl) ?_
                refine va_get (D := D) (ci := 1) (v := .ref aM) (C := "BuildDrawer") (T := TB) (N := 14) hx hb hw inB hown hK hP 0 rfl rfl 8 (by decide) (hw _ k_64) (fun _ h9 => h9) rfl d_B_canGo_65 ?_
                refine lv_iload_n hx hb d_B_canGo_68 rfl (lv_at hl 0 rfl) ?_
                refine va_iald hx hb hK hP 3 0 rfl rfl (vp_in_nI (n := j) (by omega) (by omega)) d_B_canGo_69 ?_
                refine cx_ti (y := fM j) (by rw [nI_clamp (by omega)]) ?_
                refine lv_ior hx hb d_B_canGo_70 ?_
                refine lv_istore_n (lv' := [(2, .int ((bd_wo fL fM k j) ||| (fM j))), (3, .int (nI j)), (1, .int (nI k)), (0, .ref h0)]) hx hb d_B_canGo_71 rfl hl (by decide) rfl (fun ls hl => ?_)
                rw [← e_i] at hl
                refine lv_iinc (v := nI (j + 1)) (lv' := [(3, .int (nI (j + 1))), (2, .int (bd_wo fL fM k (j + 1))), (1, .int (nI k)), (0, .ref h0)]) hx hb d_B_canGo_72 hl (k := 1) rfl (by exact cx_inc j) (by decide) rfl (fun ls hl => ?_)
                refine lv_goto (tgt := 23) hx hb d_B_canGo_75 (by decide) ?_
                exact ih (j + 1) _ _ _ ⟨(by omega), e_n, hP, hD, hS, lv_sub hl [0, 1, 2, 3] rfl⟩ (by omega)
              · have c_58 := r_58
                refine lv_iconst (v := 0) hx hb d_B_canGo_61 (by decide) ?_
                exact cx_zret hx hb hr hlocks hK hP hD hS d_B_canGo_62 (rfl) (by rw [bd_cg, if_neg r_14, if_pos (bd_nx_mono (bd_nx_hit c_39 r_48 r_58) (by omega))]) (rfl)
    · have c_14 := r_14
      refine lv_iconst (v := 0) hx hb d_B_canGo_17 (by decide) ?_
      exact cx_zret hx hb hr hlocks hK hP hD hS d_B_canGo_18 (rfl) (by rw [bd_cg, if_pos r_14]) (rfl)
set_option maxHeartbeats 4000000 in
set_option maxRecDepth 100000 in
theorem c_B_left (l : Launch) (G : cx_G) (D : va_G) (K : cx_KT) (sz : Nat) (h0 : Nat) (seed : Int64) (hM : Nat) (hO : Nat) (cnt : Nat) (aS : Nat) (aA : Nat) (aB : Nat) (aN : Nat) (aM : Nat) (aL : Nat) (vb : Int32) (vs : Int32) (aT : Nat) (tl : Int32) (fL : Nat → Int32) (i : Int32) (hcnt : cnt ≤ 62) : Met l y_B_left w_B_left ({ frames := 0, cells := 0, slots := 0, locals := 0 }) (cx_Pc G D (cx_ty K) [(h0, .inr (1, [.long seed, .ref hM, .ref hO, .int (nI cnt), .ref aS, .ref aA, .ref aB, .ref aN, .ref aM, .ref aL, .int vb, .int vs, .ref aT, .int tl])), (aL, .inl (K.2.1, 62, .inl fL))] sz [.ref h0, .int i]) (cx_Qi (bd_left fL cnt i) D (cx_ty K) [(h0, .inr (1, [.long seed, .ref hM, .ref hO, .int (nI cnt), .ref aS, .ref aA, .ref aB, .ref aN, .ref aM, .ref aL, .int vb, .int vs, .ref aT, .int tl])), (aL, .inl (K.2.1, 62, .inl fL))] (va_A [(h0, .inr (1, [.long seed, .ref hM, .ref hO, .int (nI cnt), .ref aS, .ref aA, .ref aB, .ref aN, .ref aM, .ref aL, .int vb, .int vs, .ref aT, .int tl])), (aL, .inl (K.2.1, 62, .inl fL))] sz)) 0 0 (va_A [(h0, .inr (1, [.long seed, .ref hM, .ref hO, .int (nI cnt), .ref aS, .ref aA, .ref aB, .ref aN, .ref aM, .ref aL, .int vb, .int vs, .ref aT, .int tl])), (aL, .inl (K.2.1, 62, .inl fL))] sz) := by
  refine Met.ofW (cc := prog_1_method_7_code) (maxL := 4) (ret := (some .int)) (by decide) rfl ?_
  intro p e s m args below meth c s₁ B hml hv
  obtain ⟨rfl, hsz, hP, hK, hD0, hE⟩ := hv
  have hx := B.exec
  have hb := B.bytes
  have hr := B.returns
  have hts := atoms_spec (ws := w_B_left) B.pre
  have hw : ∀ w ∈ cw, w.before _ s = true := fun w h => hts w (List.mem_cons_of_mem _ h)
  have hown : s.vm.findClass "BuildDrawer" = some m.cls := findClass_of_methodNamed B.named
  have hlocks := B.notSynchronized
  subst hsz
  have hD := hD0.self (sz := s.heap.size)
  generalize hAe : va_A [(h0, .inr (1, [.long seed, .ref hM, .ref hO, .int (nI cnt), .ref aS, .ref aA, .ref aB, .ref aN, .ref aM, .ref aL, .int vb, .int vs, .ref aT, .int tl])), (aL, .inl (K.2.1, 62, .inl fL))] s.heap.size = A at hD hE ⊢
  have hA : ∀ q : Nat, s.heap.size ≤ q → A q := fun q h => by rw [← hAe]; exact Or.inr h
  have hS : va_S A s.heap s.heap [] := va_S.rf
  have hl := lv_entry ([.ref h0, .int i]) (n := 4) (Nat.le_of_ble_eq_true rfl)
  rw [lg_entry_eq]
  generalize (lg_sl ([.ref h0, .int i]) ++ List.replicate (4 - (lg_sl ([.ref h0, .int i])).length) Slot.unset).toArray = ls at hl ⊢
  have hl : lv_has ls 4 [(0, .ref h0), (1, .int i)] := hl
  refine lv_iload_n hx hb d_B_left_0 rfl (lv_at hl 1 rfl) ?_
  refine lv_if_ge (tgt := 6) hx hb d_B_left_1 (by decide) (fun r_1 => ?_) (fun r_1 => ?_)
  · have c_1 := r_1
    refine lv_iconst (v := 0) hx hb d_B_left_6 (by decide) ?_
    refine lv_istore_n (lv' := [(2, .int 0), (0, .ref h0), (1, .int i)]) hx hb d_B_left_7 rfl hl (by decide) rfl (fun ls hl => ?_)
    refine lv_iconst (v := 0) hx hb d_B_left_8 (by decide) ?_
    refine lv_istore_n (lv' := [(3, .int 0), (2, .int 0), (0, .ref h0), (1, .int i)]) hx hb d_B_left_9 rfl hl (by decide) rfl (fun ls hl => ?_)
    refine cx_loop (pc := 10) (st := []) (fun (z : Nat × Int32) H locs ls => match z with | (j, b) => (j ≤ cnt) ∧ (bd_lg fL i (cnt - j) j b = bd_lg fL i cnt 0 0) ∧ va_P D vwCl [(h0, .inr (1, [.long seed, .ref hM, .ref hO, .int (nI cnt), .ref aS, .ref aA, .ref aB, .ref aN, .ref aM, .ref aL, .int vb, .int vs, .ref aT, .int tl])), (aL, .inl (K.2.1, 62, .inl fL))] H ∧ va_D A [(h0, .inr (1, [.long seed, .ref hM, .ref hO, .int (nI cnt), .ref aS, .ref aA, .ref aB, .ref aN, .ref aM, .ref aL, .int vb, .int vs, .ref aT, .int tl])), (aL, .inl (K.2.1, 62, .inl fL))] ∧ va_S A s.heap H locs ∧ lv_has ls 4 [(3, .int (nI j)), (2, .int b), (1, .int i), (0, .ref h0)]) (fun (z : Nat × Int32) => match z with | (j, b) => cnt - j) (fun z H locs ls hI ih => ?_) (0, 0) ⟨Nat.zero_le _, rfl, hP, hD, hS, lv_sub hl [0, 1, 3, 2] rfl⟩
    obtain ⟨j, b⟩ := z
    obtain ⟨hj, hb9, hP, hD, hS, hl⟩ := hI
    have hP : va_P D vwCl [(h0, .inr (1, [.long seed, .ref hM, .ref hO, .int (nI cnt), .ref aS, .ref aA, .ref aB, .ref aN, .ref aM, .ref aL, .int vb, .int vs, .ref aT, .int tl])), (aL, .inl (K.2.1, 62, .inl fL))] H := hP
    have hD : va_D A [(h0, .inr (1, [.long seed, .ref hM, .ref hO, .int (nI cnt), .ref aS, .ref aA, .ref aB, .ref aN, .ref aM, .ref aL, .int vb, .int vs, .ref aT, .int tl])), (aL, .inl (K.2.1, 62, .inl fL))] := hD
    have hl : lv_has ls 4 [(3, .int (nI j)), (2, .int b), (1, .int i), (0, .ref h0)] := hl
    refine lv_iload_n hx hb d_B_left_10 rfl (lv_at hl 0 rfl) ?_
    refine lv_aload_n hx hb d_B_left_11 rfl (lv_at hl 3 rfl) ?_
    refine va_get (D := D) (ci := 1) (v := .int (nI cnt)) (C := "BuildDrawer") (T := TB) (N := 14) hx hb hw inB hown hK hP 0 rfl rfl 3 (by decide) (hw _ k_59) (fun _ h9 => h9) rfl d_B_left_12 ?_
    refine lv_icmp_ge (tgt := 49) hx hb d_B_left_15 (by decide) (fun r_15 => ?_) (fun r_15 => ?_)
    · have c_15 := (nI_leI (a := cnt) (b := j) (by omega) (by omega)).mp r_15
      refine lv_iconst (v := (-1)) hx hb d_B_left_49 (by decide) ?_
      exact cx_iret hx hb hr hlocks hK hP hD hS d_B_left_50 (by rw [bd_left, if_neg (Int32.not_lt.mpr r_1), ← hb9, show cnt - j = 0 by omega, bd_lg]) (rfl)
    · have c_15 := mt (nI_leI (a := cnt) (b := j) (by omega) (by omega)).mpr r_15
      refine lv_iload_n hx hb d_B_left_18 rfl (lv_at hl 0 rfl) ?_
      refine lv_bipush (v := 62) hx hb d_B_left_19 (by decide) ?_
      refine lv_icmp_ge (tgt := 49) hx hb d_B_left_21 (by decide) (fun r_21 => ?_) (fun r_21 => ?_)
      · have c_21 := (nI_leI (a := 62) (b := j) (by omega) (by omega)).mp r_21
        omega
      · have c_21 := mt (nI_leI (a := 62) (b := j) (by omega) (by omega)).mpr r_21
        refine lv_aload_n hx hb d_B_left_24 rfl (lv_at hl 3 rfl) ?_
        refine va_get (D := D) (ci := 1) (v := .ref aL) (C := "BuildDrawer") (T := TB) (N := 14) hx hb hw inB hown hK hP 0 rfl rfl 9 (by decide) (hw _ k_65) (fun _ h9 => h9) rfl d_B_left_25 ?_
        refine lv_iload_n hx hb d_B_left_28 rfl (lv_at hl 0 rfl) ?_
        refine va_zald hx hb hK hP 1 1 rfl rfl (vp_in_nI (n := j) (by omega) (by omega)) d_B_left_29 ?_
        refine cx_ti (y := fL j) (by rw [nI_clamp (by omega)]) ?_
        refine lv_if_eq (tgt := 43) hx hb d_B_left_30 (by decide) (fun r_30 => ?_) (fun r_30 => ?_)
        · have c_30 := r_30
          have e_i : bd_lg fL i (cnt - (j + 1) + 1) j b = bd_lg fL i (cnt - (j + 1)) (j + 1) b := by rw [bd_lg, if_pos r_30]
          refine lv_iinc (v := nI (j + 1)) (lv' := [(3, .int (nI (j + 1))), (2, .int b), (1, .int i), (0, .ref h0)]) hx hb d_B_left_43 hl (k := 0) rfl (by exact cx_inc j) (by decide) rfl (fun ls hl => ?_)
          refine lv_goto (tgt := 10) hx hb d_B_left_46 (by decide) ?_
          exact ih ((j + 1), b) _ _ _ ⟨(by omega), (by rw [← hb9, show cnt - j = (cnt - (j + 1)) + 1 by omega]; exact e_i.symm), hP, hD, hS, lv_sub hl [0, 1, 2, 3] rfl⟩ (show cnt - (j + 1) < cnt - j by omega)
        · have c_30 := r_30
          refine lv_iload_n hx hb d_B_left_33 rfl (lv_at hl 1 rfl) ?_
          refine lv_iload_n hx hb d_B_left_34 rfl (lv_at hl 2 rfl) ?_
          refine lv_icmp_ne (tgt := 40) hx hb d_B_left_35 (by decide) (fun r_35 => ?_) (fun r_35 => ?_)
          · have c_35 := r_35
            have e_i : bd_lg fL i (cnt - (j + 1) + 1) j b = bd_lg fL i (cnt - (j + 1)) (j + 1) (b + 1) := by rw [bd_lg, if_neg r_30, if_neg r_35]
            refine lv_iinc (v := b + 1) (lv' := [(2, .int (b + 1)), (3, .int (nI j)), (1, .int i), (0, .ref h0)]) hx hb d_B_left_40 hl (k := 1) rfl (by exact rfl) (by decide) rfl (fun ls hl => ?_)
            refine lv_iinc (v := nI (j + 1)) (lv' := [(3, .int (nI (j + 1))), (2, .int (b + 1)), (1, .int i), (0, .ref h0)]) hx hb d_B_left_43 hl (k := 1) rfl (by exact cx_inc j) (by decide) rfl (fun ls hl => ?_)
            refine lv_goto (tgt := 10) hx hb d_B_left_46 (by decide) ?_
            exact ih ((j + 1), (b + 1)) _ _ _ ⟨(by omega), (by rw [← hb9, show cnt - j = (cnt - (j + 1)) + 1 by omega]; exact e_i.symm), hP, hD, hS, lv_sub hl [0, 1, 2, 3] rfl⟩ (show cnt - (j + 1) < cnt - j by omega)
          · have c_35 := r_35
            refine lv_iload_n hx hb d_B_left_38 rfl (lv_at hl 0 rfl) ?_
            exact cx_iret hx hb hr hlocks hK hP hD hS d_B_left_39 (by rw [bd_left, if_neg (Int32.not_lt.mpr r_1), ← hb9, show cnt - j = (cnt - (j + 1)) + 1 by omega, bd_lg, if_neg r_30, if_pos r_35]) (rfl)
  · have c_1 := r_1
    refine lv_iconst (v := (-1)) hx hb d_B_left_4 (by decide) ?_
    exact cx_iret hx hb hr hlocks hK hP hD hS d_B_left_5 (by rw [bd_left, if_pos (Int32.not_le.mp r_1)]) (rfl)
set_option maxHeartbeats 4000000 in
set_option maxRecDepth 100000 in
theorem c_B_minimal (l : Launch) (G : cx_G) (D : va_G) (K : cx_KT) (sz : Nat) (h0 : Nat) (seed : Int64) (hM : Nat) (hO : Nat) (cnt : Nat) (aS : Nat) (aA : Nat) (aB : Nat) (aN : Nat) (aM : Nat) (aL : Nat) (vb : Int32) (vs : Int32) (aT : Nat) (tl : Int32) (fL : Nat → Int32) (fN : Nat → Int32) (fM : Nat → Int32) (hcnt : cnt ≤ 62) : Met l y_B_minimal w_B_minimal ({ frames := 2, cells := 0, slots := 0, locals := 45 }) (cx_Pc G D (cx_ty K) [(h0, .inr (1, [.long seed, .ref hM, .ref hO, .int (nI cnt), .ref aS, .ref aA, .ref aB, .ref aN, .ref aM, .ref aL, .int vb, .int vs, .ref aT, .int tl])), (aL, .inl (K.2.1, 62, .inl fL)), (aN, .inl (K.1, 62, .inl fN)), (aM, .inl (K.1, 62, .inl fM))] sz [.ref h0]) (cx_Qi (bd_mi (fun k => bd_cg fL fN fM vb vs cnt k) cnt 0) D (cx_ty K) [(h0, .inr (1, [.long seed, .ref hM, .ref hO, .int (nI cnt), .ref aS, .ref aA, .ref aB, .ref aN, .ref aM, .ref aL, .int vb, .int vs, .ref aT, .int tl])), (aL, .inl (K.2.1, 62, .inl fL)), (aN, .inl (K.1, 62, .inl fN)), (aM, .inl (K.1, 62, .inl fM))] (va_A [(h0, .inr (1, [.long seed, .ref hM, .ref hO, .int (nI cnt), .ref aS, .ref aA, .ref aB, .ref aN, .ref aM, .ref aL, .int vb, .int vs, .ref aT, .int tl])), (aL, .inl (K.2.1, 62, .inl fL)), (aN, .inl (K.1, 62, .inl fN)), (aM, .inl (K.1, 62, .inl fM))] sz)) 0 0 (va_A [(h0, .inr (1, [.long seed, .ref hM, .ref hO, .int (nI cnt), .ref aS, .ref aA, .ref aB, .ref aN, .ref aM, .ref aL, .int vb, .int vs, .ref aT, .int tl])), (aL, .inl (K.2.1, 62, .inl fL)), (aN, .inl (K.1, 62, .inl fN)), (aM, .inl (K.1, 62, .inl fM))] sz) := by
  refine Met.ofW (cc := prog_1_method_8_code) (maxL := 2) (ret := (some .boolean)) (by decide) rfl ?_
  intro p e s m args below meth c s₁ B hml hv
  obtain ⟨rfl, hsz, hP, hK, hD0, hE⟩ := hv
  have hx := B.exec
  have hb := B.bytes
  have hr := B.returns
  have hts := atoms_spec (ws := w_B_minimal) B.pre
  have hw : ∀ w ∈ cw, w.before _ s = true := fun w h => hts w (List.mem_cons_of_mem _ h)
  have hown : s.vm.findClass "BuildDrawer" = some m.cls := findClass_of_methodNamed B.named
  have hlocks := B.notSynchronized
  subst hsz
  have hD := hD0.self (sz := s.heap.size)
  generalize hAe : va_A [(h0, .inr (1, [.long seed, .ref hM, .ref hO, .int (nI cnt), .ref aS, .ref aA, .ref aB, .ref aN, .ref aM, .ref aL, .int vb, .int vs, .ref aT, .int tl])), (aL, .inl (K.2.1, 62, .inl fL)), (aN, .inl (K.1, 62, .inl fN)), (aM, .inl (K.1, 62, .inl fM))] s.heap.size = A at hD hE ⊢
  have hA : ∀ q : Nat, s.heap.size ≤ q → A q := fun q h => by rw [← hAe]; exact Or.inr h
  have hS : va_S A s.heap s.heap [] := va_S.rf
  have hl := lv_entry ([.ref h0]) (n := 2) (Nat.le_of_ble_eq_true rfl)
  rw [lg_entry_eq]
  generalize (lg_sl ([.ref h0]) ++ List.replicate (2 - (lg_sl ([.ref h0])).length) Slot.unset).toArray = ls at hl ⊢
  have hl : lv_has ls 2 [(0, .ref h0)] := hl
  refine lv_iconst (v := 0) hx hb d_B_minimal_0 (by decide) ?_
  refine lv_istore_n (lv' := [(1, .int 0), (0, .ref h0)]) hx hb d_B_minimal_1 rfl hl (by decide) rfl (fun ls hl => ?_)
  refine cx_loop (pc := 2) (st := []) (fun (j : Nat) H locs ls => (j ≤ cnt) ∧ (bd_mi (fun k => bd_cg fL fN fM vb vs cnt k) (cnt - j) j = bd_mi (fun k => bd_cg fL fN fM vb vs cnt k) cnt 0) ∧ va_P D vwCl [(h0, .inr (1, [.long seed, .ref hM, .ref hO, .int (nI cnt), .ref aS, .ref aA, .ref aB, .ref aN, .ref aM, .ref aL, .int vb, .int vs, .ref aT, .int tl])), (aL, .inl (K.2.1, 62, .inl fL)), (aN, .inl (K.1, 62, .inl fN)), (aM, .inl (K.1, 62, .inl fM))] H ∧ va_D A [(h0, .inr (1, [.long seed, .ref hM, .ref hO, .int (nI cnt), .ref aS, .ref aA, .ref aB, .ref aN, .ref aM, .ref aL, .int vb, .int vs, .ref aT, .int tl])), (aL, .inl (K.2.1, 62, .inl fL)), (aN, .inl (K.1, 62, .inl fN)), (aM, .inl (K.1, 62, .inl fM))] ∧ va_S A s.heap H locs ∧ lv_has ls 2 [(1, .int (nI j)), (0, .ref h0)]) (fun (j : Nat) => cnt - j) (fun z H locs ls hI ih => ?_) 0 ⟨Nat.zero_le _, rfl, hP, hD, hS, lv_sub hl [0, 1] rfl⟩
  obtain ⟨j, rfl⟩ : ∃ y, y = z := ⟨_, rfl⟩
  obtain ⟨hj, hb9, hP, hD, hS, hl⟩ := hI
  have hP : va_P D vwCl [(h0, .inr (1, [.long seed, .ref hM, .ref hO, .int (nI cnt), .ref aS, .ref aA, .ref aB, .ref aN, .ref aM, .ref aL, .int vb, .int vs, .ref aT, .int tl])), (aL, .inl (K.2.1, 62, .inl fL)), (aN, .inl (K.1, 62, .inl fN)), (aM, .inl (K.1, 62, .inl fM))] H := hP
  have hD : va_D A [(h0, .inr (1, [.long seed, .ref hM, .ref hO, .int (nI cnt), .ref aS, .ref aA, .ref aB, .ref aN, .ref aM, .ref aL, .int vb, .int vs, .ref aT, .int tl])), (aL, .inl (K.2.1, 62, .inl fL)), (aN, .inl (K.1, 62, .inl fN)), (aM, .inl (K.1, 62, .inl fM))] := hD
  have hl : lv_has ls 2 [(1, .int (nI j)), (0, .ref h0)] := hl
  refine lv_iload_n hx hb d_B_minimal_2 rfl (lv_at hl 0 rfl) ?_
  refine lv_aload_n hx hb d_B_minimal_3 rfl (lv_at hl 1 rfl) ?_
  refine va_get (D := D) (ci := 1) (v := .int (nI cnt)) (C := "BuildDrawer") (T := TB) (N := 14) hx hb hw inB hown hK hP 0 rfl rfl 3 (by decide) (hw _ k_59) (fun _ h9 => h9) rfl d_B_minimal_4 ?_
  refine lv_icmp_ge (tgt := 26) hx hb d_B_minimal_7 (by decide) (fun r_7 => ?_) (fun r_7 => ?_)
  · have c_7 := (nI_leI (a := cnt) (b := j) (by omega) (by omega)).mp r_7
    refine lv_iconst (v := 1) hx hb d_B_minimal_26 (by decide) ?_
    exact cx_zret hx hb hr hlocks hK hP hD hS d_B_minimal_27 (rfl) (by rw [← hb9, show cnt - j = 0 by omega, bd_mi]) (rfl)
  · have c_7 := mt (nI_leI (a := cnt) (b := j) (by omega) (by omega)).mpr r_7
    refine lv_aload_n hx hb d_B_minimal_10 rfl (lv_at hl 1 rfl) ?_
    refine lv_iload_n hx hb d_B_minimal_11 rfl (lv_at hl 0 rfl) ?_
    refine cx_ci (wr := []) (wN := [(h0, .inr (1, [.long seed, .ref hM, .ref hO, .int (nI cnt), .ref aS, .ref aA, .ref aB, .ref aN, .ref aM, .ref aL, .int vb, .int vs, .ref aT, .int tl])), (aL, .inl (K.2.1, 62, .inl fL)), (aN, .inl (K.1, 62, .inl fN)), (aM, .inl (K.1, 62, .inl fM))]) (va_runV (As := [.int (nI j)]) (rest := []) ⟨hx, hb, hml, hown, hw⟩ (c_B_canGo l G D K H.size h0 seed hM hO cnt aS aA aB aN aM aL vb vs aT tl fL fN fM j (by omega) (by omega)) (cwV 1 hw (cx_gV k_270 k_272 ks_B_canGo k_1 k_273) rfl rfl rfl (by decide +kernel) ⟨Nat.le_of_ble_eq_true rfl, Nat.le_of_ble_eq_true rfl⟩) (cx_preV (q0 := 0) (ci := 1) hK hP hD hS hA hE rfl rfl [0, 1, 2, 3] rfl rfl (by decide)) rfl rfl hl.1 rfl (lv_room (Nat.le_of_ble_eq_true rfl)) d_B_minimal_12 ⟨Nat.le_of_ble_eq_true rfl, Nat.le_of_ble_eq_true rfl⟩) hP hD hS hA [0, 1, 2, 3] [] rfl rfl (by decide) (by decide) [0, 1, 2, 3] rfl rfl (by decide) (fun H locs hP hD hS => ?_)
    refine lv_if_eq (tgt := 20) hx hb d_B_minimal_15 (by decide) (fun r_15 => ?_) (fun r_15 => ?_)
    · have c_15 := r_15
      refine lv_iinc (v := nI (j + 1)) (lv' := [(1, .int (nI (j + 1))), (0, .ref h0)]) hx hb d_B_minimal_20 hl (k := 0) rfl (by exact cx_inc j) (by decide) rfl (fun ls hl => ?_)
      refine lv_goto (tgt := 2) hx hb d_B_minimal_23 (by decide) ?_
      exact ih (j + 1) _ _ _ ⟨(by omega), (by rw [← hb9, show cnt - j = (cnt - (j + 1)) + 1 by omega, bd_mi, if_pos r_15]), hP, hD, hS, lv_sub hl [0, 1] rfl⟩ (by omega)
    · have c_15 := r_15
      refine lv_iconst (v := 0) hx hb d_B_minimal_18 (by decide) ?_
      exact cx_zret hx hb hr hlocks hK hP hD hS d_B_minimal_19 (rfl) (by rw [← hb9, show cnt - j = (cnt - (j + 1)) + 1 by omega, bd_mi, if_neg r_15]) (rfl)
set_option maxHeartbeats 4000000 in
set_option maxRecDepth 100000 in
theorem c_B_leaveOutFromLastToFirst (l : Launch) (G : cx_G) (D : va_G) (K : cx_KT) (sz : Nat) (h0 : Nat) (seed : Int64) (hM : Nat) (hO : Nat) (cnt : Nat) (aS : Nat) (aA : Nat) (aB : Nat) (aN : Nat) (aM : Nat) (aL : Nat) (vb : Int32) (vs : Int32) (aT : Nat) (tl : Int32) (fL : Nat → Int32) (fN : Nat → Int32) (fM : Nat → Int32) (hcnt : cnt ≤ 62) : Met l y_B_leaveOutFromLastToFirst w_B_leaveOutFromLastToFirst ({ frames := 2, cells := 0, slots := 0, locals := 45 }) (cx_Pc G D (cx_ty K) [(h0, .inr (1, [.long seed, .ref hM, .ref hO, .int (nI cnt), .ref aS, .ref aA, .ref aB, .ref aN, .ref aM, .ref aL, .int vb, .int vs, .ref aT, .int tl])), (aL, .inl (K.2.1, 62, .inl fL)), (aN, .inl (K.1, 62, .inl fN)), (aM, .inl (K.1, 62, .inl fM))] sz [.ref h0]) (cx_Qi ((bd_lo (fun f k => bd_cg f fN fM vb vs cnt k) cnt fL 0).2) D (cx_ty K) [(h0, .inr (1, [.long seed, .ref hM, .ref hO, .int (nI cnt), .ref aS, .ref aA, .ref aB, .ref aN, .ref aM, .ref aL, .int vb, .int vs, .ref aT, .int tl])), (aL, .inl (K.2.1, 62, .inl ((bd_lo (fun f k => bd_cg f fN fM vb vs cnt k) cnt fL 0).1))), (aN, .inl (K.1, 62, .inl fN)), (aM, .inl (K.1, 62, .inl fM))] (va_A [(h0, .inr (1, [.long seed, .ref hM, .ref hO, .int (nI cnt), .ref aS, .ref aA, .ref aB, .ref aN, .ref aM, .ref aL, .int vb, .int vs, .ref aT, .int tl])), (aL, .inl (K.2.1, 62, .inl fL)), (aN, .inl (K.1, 62, .inl fN)), (aM, .inl (K.1, 62, .inl fM))] sz)) 0 0 (va_A [(h0, .inr (1, [.long seed, .ref hM, .ref hO, .int (nI cnt), .ref aS, .ref aA, .ref aB, .ref aN, .ref aM, .ref aL, .int vb, .int vs, .ref aT, .int tl])), (aL, .inl (K.2.1, 62, .inl fL)), (aN, .inl (K.1, 62, .inl fN)), (aM, .inl (K.1, 62, .inl fM))] sz) := by
  refine Met.ofW (cc := prog_1_method_19_code) (maxL := 3) (ret := (some .boolean)) (by decide) rfl ?_
  intro p e s m args below meth c s₁ B hml hv
  obtain ⟨rfl, hsz, hP, hK, hD0, hE⟩ := hv
  have hx := B.exec
  have hb := B.bytes
  have hr := B.returns
  have hts := atoms_spec (ws := w_B_leaveOutFromLastToFirst) B.pre
  have hw : ∀ w ∈ cw, w.before _ s = true := fun w h => hts w (List.mem_cons_of_mem _ h)
  have hown : s.vm.findClass "BuildDrawer" = some m.cls := findClass_of_methodNamed B.named
  have hlocks := B.notSynchronized
  subst hsz
  have hD := hD0.self (sz := s.heap.size)
  generalize hAe : va_A [(h0, .inr (1, [.long seed, .ref hM, .ref hO, .int (nI cnt), .ref aS, .ref aA, .ref aB, .ref aN, .ref aM, .ref aL, .int vb, .int vs, .ref aT, .int tl])), (aL, .inl (K.2.1, 62, .inl fL)), (aN, .inl (K.1, 62, .inl fN)), (aM, .inl (K.1, 62, .inl fM))] s.heap.size = A at hD hE ⊢
  have hA : ∀ q : Nat, s.heap.size ≤ q → A q := fun q h => by rw [← hAe]; exact Or.inr h
  have hS : va_S A s.heap s.heap [] := va_S.rf
  have hl := lv_entry ([.ref h0]) (n := 3) (Nat.le_of_ble_eq_true rfl)
  rw [lg_entry_eq]
  generalize (lg_sl ([.ref h0]) ++ List.replicate (3 - (lg_sl ([.ref h0])).length) Slot.unset).toArray = ls at hl ⊢
  have hl : lv_has ls 3 [(0, .ref h0)] := hl
  refine lv_iconst (v := 0) hx hb d_B_leaveOutFromLastToFirst_0 (by decide) ?_
  refine lv_istore_n (lv' := [(1, .int 0), (0, .ref h0)]) hx hb d_B_leaveOutFromLastToFirst_1 rfl hl (by decide) rfl (fun ls hl => ?_)
  refine lv_aload_n hx hb d_B_leaveOutFromLastToFirst_2 rfl (lv_at hl 1 rfl) ?_
  refine va_get (D := D) (ci := 1) (v := .int (nI cnt)) (C := "BuildDrawer") (T := TB) (N := 14) hx hb hw inB hown hK hP 0 rfl rfl 3 (by decide) (hw _ k_59) (fun _ h9 => h9) rfl d_B_leaveOutFromLastToFirst_3 ?_
  refine lv_iconst (v := 1) hx hb d_B_leaveOutFromLastToFirst_6 (by decide) ?_
  refine lv_isub hx hb d_B_leaveOutFromLastToFirst_7 ?_
  refine lv_istore_n (lv' := [(2, .int ((nI cnt) - 1)), (1, .int 0), (0, .ref h0)]) hx hb d_B_leaveOutFromLastToFirst_8 rfl hl (by decide) rfl (fun ls hl => ?_)
  refine cx_loop (pc := 9) (st := []) (fun (z : Nat × (Nat → Int32) × Int32) H locs ls => match z with | (q, f, w) => (q ≤ cnt) ∧ (w = 0 ∨ w = 1) ∧ (bd_lo (fun f k => bd_cg f fN fM vb vs cnt k) q f w = bd_lo (fun f k => bd_cg f fN fM vb vs cnt k) cnt fL 0) ∧ va_P D vwCl [(h0, .inr (1, [.long seed, .ref hM, .ref hO, .int (nI cnt), .ref aS, .ref aA, .ref aB, .ref aN, .ref aM, .ref aL, .int vb, .int vs, .ref aT, .int tl])), (aL, .inl (K.2.1, 62, .inl f)), (aN, .inl (K.1, 62, .inl fN)), (aM, .inl (K.1, 62, .inl fM))] H ∧ va_D A [(h0, .inr (1, [.long seed, .ref hM, .ref hO, .int (nI cnt), .ref aS, .ref aA, .ref aB, .ref aN, .ref aM, .ref aL, .int vb, .int vs, .ref aT, .int tl])), (aL, .inl (K.2.1, 62, .inl f)), (aN, .inl (K.1, 62, .inl fN)), (aM, .inl (K.1, 62, .inl fM))] ∧ va_S A s.heap H locs ∧ lv_has ls 3 [(2, .int (nI q - 1)), (1, .int w), (0, .ref h0)]) (fun (z : Nat × (Nat → Int32) × Int32) => match z with | (q, f, w) => q) (fun z H locs ls hI ih => ?_) (cnt, fL, 0) ⟨Nat.le_refl _, Or.inl rfl, rfl, hP, hD, hS, lv_sub hl [0, 1, 2] rfl⟩
  obtain ⟨q, f, w⟩ := z
  obtain ⟨hq, hw9, hb9, hP, hD, hS, hl⟩ := hI
  have hP : va_P D vwCl [(h0, .inr (1, [.long seed, .ref hM, .ref hO, .int (nI cnt), .ref aS, .ref aA, .ref aB, .ref aN, .ref aM, .ref aL, .int vb, .int vs, .ref aT, .int tl])), (aL, .inl (K.2.1, 62, .inl f)), (aN, .inl (K.1, 62, .inl fN)), (aM, .inl (K.1, 62, .inl fM))] H := hP
  have hD : va_D A [(h0, .inr (1, [.long seed, .ref hM, .ref hO, .int (nI cnt), .ref aS, .ref aA, .ref aB, .ref aN, .ref aM, .ref aL, .int vb, .int vs, .ref aT, .int tl])), (aL, .inl (K.2.1, 62, .inl f)), (aN, .inl (K.1, 62, .inl fN)), (aM, .inl (K.1, 62, .inl fM))] := hD
  have hl : lv_has ls 3 [(2, .int (nI q - 1)), (1, .int w), (0, .ref h0)] := hl
  refine lv_iload_n hx hb d_B_leaveOutFromLastToFirst_9 rfl (lv_at hl 0 rfl) ?_
  refine lv_if_lt (tgt := 42) hx hb d_B_leaveOutFromLastToFirst_10 (by decide) (fun r_10 => ?_) (fun r_10 => ?_)
  · have c_10 := r_10
    have c_10 := (bd_dn_lt (by omega)).mp r_10
    subst c_10
    refine lv_iload_n hx hb d_B_leaveOutFromLastToFirst_42 rfl (lv_at hl 1 rfl) ?_
    exact cx_zret hx hb hr hlocks hK hP hD hS d_B_leaveOutFromLastToFirst_43 ((bd_01 hw9).1) (by rw [← hb9, bd_lo]) (by rw [← hb9, bd_lo])
  · have c_10 := r_10
    have c_10 := mt (bd_dn_lt (by omega)).mpr r_10
    obtain ⟨k, rfl⟩ : ∃ k, q = k + 1 := ⟨q - 1, by omega⟩
    rw [nI_pred] at hl
    refine lv_iload_n hx hb d_B_leaveOutFromLastToFirst_13 rfl (lv_at hl 0 rfl) ?_
    refine lv_bipush (v := 62) hx hb d_B_leaveOutFromLastToFirst_14 (by decide) ?_
    refine lv_icmp_ge (tgt := 36) hx hb d_B_leaveOutFromLastToFirst_16 (by decide) (fun r_16 => ?_) (fun r_16 => ?_)
    · have c_16 := (nI_leI (a := 62) (b := k) (by omega) (by omega)).mp r_16
      omega
    · have c_16 := mt (nI_leI (a := 62) (b := k) (by omega) (by omega)).mpr r_16
      refine lv_aload_n hx hb d_B_leaveOutFromLastToFirst_19 rfl (lv_at hl 2 rfl) ?_
      refine lv_iload_n hx hb d_B_leaveOutFromLastToFirst_20 rfl (lv_at hl 0 rfl) ?_
      refine cx_ci (wr := []) (wN := [(h0, .inr (1, [.long seed, .ref hM, .ref hO, .int (nI cnt), .ref aS, .ref aA, .ref aB, .ref aN, .ref aM, .ref aL, .int vb, .int vs, .ref aT, .int tl])), (aL, .inl (K.2.1, 62, .inl f)), (aN, .inl (K.1, 62, .inl fN)), (aM, .inl (K.1, 62, .inl fM))]) (va_runV (As := [.int (nI k)]) (rest := []) ⟨hx, hb, hml, hown, hw⟩ (c_B_canGo l G D K H.size h0 seed hM hO cnt aS aA aB aN aM aL vb vs aT tl f fN fM k (by omega) (by omega)) (cwV 1 hw (cx_gV k_270 k_272 ks_B_canGo k_1 k_273) rfl rfl rfl (by decide +kernel) ⟨Nat.le_of_ble_eq_true rfl, Nat.le_of_ble_eq_true rfl⟩) (cx_preV (q0 := 0) (ci := 1) hK hP hD hS hA hE rfl rfl [0, 1, 2, 3] rfl rfl (by decide)) rfl rfl hl.1 rfl (lv_room (Nat.le_of_ble_eq_true rfl)) d_B_leaveOutFromLastToFirst_21 ⟨Nat.le_of_ble_eq_true rfl, Nat.le_of_ble_eq_true rfl⟩) hP hD hS hA [0, 1, 2, 3] [] rfl rfl (by decide) (by decide) [0, 1, 2, 3] rfl rfl (by decide) (fun H locs hP hD hS => ?_)
      refine lv_if_eq (tgt := 36) hx hb d_B_leaveOutFromLastToFirst_24 (by decide) (fun r_24 => ?_) (fun r_24 => ?_)
      · have c_24 := r_24
        have e_i : bd_lo (fun f k => bd_cg f fN fM vb vs cnt k) (k + 1) f w = bd_lo (fun f k => bd_cg f fN fM vb vs cnt k) k f w := by rw [bd_lo, if_pos r_24]
        refine lv_iinc (v := nI k - 1) (lv' := [(2, .int (nI k - 1)), (1, .int w), (0, .ref h0)]) hx hb d_B_leaveOutFromLastToFirst_36 hl (k := 0) rfl (by exact cx_dec k) (by decide) rfl (fun ls hl => ?_)
        refine lv_goto (tgt := 9) hx hb d_B_leaveOutFromLastToFirst_39 (by decide) ?_
        exact ih (k, f, w) _ _ _ ⟨(by omega), (by first | exact hw9 | exact Or.inr rfl), (by rw [← hb9]; exact e_i.symm), hP, hD, hS, lv_sub hl [0, 1, 2] rfl⟩ (show k < k + 1 by omega)
      · have c_24 := r_24
        have e_i : bd_lo (fun f k => bd_cg f fN fM vb vs cnt k) (k + 1) f w = bd_lo (fun f k => bd_cg f fN fM vb vs cnt k) k (upd f k 0) 1 := by rw [bd_lo, if_neg r_24]
        refine lv_aload_n hx hb d_B_leaveOutFromLastToFirst_27 rfl (lv_at hl 2 rfl) ?_
        refine va_get (D := D) (ci := 1) (v := .ref aL) (C := "BuildDrawer") (T := TB) (N := 14) hx hb hw inB hown hK hP 0 rfl rfl 9 (by decide) (hw _ k_65) (fun _ h9 => h9) rfl d_B_leaveOutFromLastToFirst_28 ?_
        refine lv_iload_n hx hb d_B_leaveOutFromLastToFirst_31 rfl (lv_at hl 0 rfl) ?_
        refine lv_iconst (v := 0) hx hb d_B_leaveOutFromLastToFirst_32 (by decide) ?_
        refine va_zast hx hb hK hP hD hS 1 1 rfl rfl (vp_in_nI (n := k) (by omega) (by omega)) d_B_leaveOutFromLastToFirst_33 (fun H locs hP hD hS => ?_)
        have e_33 : upd f (nI k).toNatClampNeg (vp_nar .boolean 0) = upd f k 0 := by rw [nI_clamp (by omega), bd_nar0]
        have hP : va_P D vwCl [(h0, .inr (1, [.long seed, .ref hM, .ref hO, .int (nI cnt), .ref aS, .ref aA, .ref aB, .ref aN, .ref aM, .ref aL, .int vb, .int vs, .ref aT, .int tl])), (aL, .inl (K.2.1, 62, .inl (upd f (nI k).toNatClampNeg (vp_nar .boolean 0)))), (aN, .inl (K.1, 62, .inl fN)), (aM, .inl (K.1, 62, .inl fM))] H := hP
        have hD : va_D A [(h0, .inr (1, [.long seed, .ref hM, .ref hO, .int (nI cnt), .ref aS, .ref aA, .ref aB, .ref aN, .ref aM, .ref aL, .int vb, .int vs, .ref aT, .int tl])), (aL, .inl (K.2.1, 62, .inl (upd f (nI k).toNatClampNeg (vp_nar .boolean 0)))), (aN, .inl (K.1, 62, .inl fN)), (aM, .inl (K.1, 62, .inl fM))] := hD
        rw [e_33] at hP hD
        have hP : va_P D vwCl [(h0, .inr (1, [.long seed, .ref hM, .ref hO, .int (nI cnt), .ref aS, .ref aA, .ref aB, .ref aN, .ref aM, .ref aL, .int vb, .int vs, .ref aT, .int tl])), (aL, .inl (K.2.1, 62, .inl (upd f k 0))), (aN, .inl (K.1, 62, .inl fN)), (aM, .inl (K.1, 62, .inl fM))] H := hP
        have hD : va_D A [(h0, .inr (1, [.long seed, .ref hM, .ref hO, .int (nI cnt), .ref aS, .ref aA, .ref aB, .ref aN, .ref aM, .ref aL, .int vb, .int vs, .ref aT, .int tl])), (aL, .inl (K.2.1, 62, .inl (upd f k 0))), (aN, .inl (K.1, 62, .inl fN)), (aM, .inl (K.1, 62, .inl fM))] := hD
        refine lv_iconst (v := 1) hx hb d_B_leaveOutFromLastToFirst_34 (by decide) ?_
        refine lv_istore_n (lv' := [(1, .int 1), (2, .int (nI k)), (0, .ref h0)]) hx hb d_B_leaveOutFromLastToFirst_35 rfl hl (by decide) rfl (fun ls hl => ?_)
        refine lv_iinc (v := nI k - 1) (lv' := [(2, .int (nI k - 1)), (1, .int 1), (0, .ref h0)]) hx hb d_B_leaveOutFromLastToFirst_36 hl (k := 1) rfl (by exact cx_dec k) (by decide) rfl (fun ls hl => ?_)
        refine lv_goto (tgt := 9) hx hb d_B_leaveOutFromLastToFirst_39 (by decide) ?_
        exact ih (k, (upd f k 0), 1) _ _ _ ⟨(by omega), (by first | exact hw9 | exact Or.inr rfl), (by rw [← hb9]; exact e_i.symm), hP, hD, hS, lv_sub hl [0, 1, 2] rfl⟩ (show k < k + 1 by omega)
set_option maxHeartbeats 4000000 in
set_option maxRecDepth 100000 in
theorem c_B_leaveOutAllThatCanGo (l : Launch) (G : cx_G) (D : va_G) (K : cx_KT) (sz : Nat) (h0 : Nat) (seed : Int64) (hM : Nat) (hO : Nat) (cnt : Nat) (aS : Nat) (aA : Nat) (aB : Nat) (aN : Nat) (aM : Nat) (aL : Nat) (vb : Int32) (vs : Int32) (aT : Nat) (tl : Int32) (fL : Nat → Int32) (fN : Nat → Int32) (fM : Nat → Int32) (hcnt : cnt ≤ 62) : Met l y_B_leaveOutAllThatCanGo w_B_leaveOutAllThatCanGo ({ frames := 3, cells := 0, slots := 0, locals := 67 }) (cx_Pc G D (cx_ty K) [(h0, .inr (1, [.long seed, .ref hM, .ref hO, .int (nI cnt), .ref aS, .ref aA, .ref aB, .ref aN, .ref aM, .ref aL, .int vb, .int vs, .ref aT, .int tl])), (aL, .inl (K.2.1, 62, .inl fL)), (aN, .inl (K.1, 62, .inl fN)), (aM, .inl (K.1, 62, .inl fM))] sz [.ref h0]) (cx_Qv D (cx_ty K) [(h0, .inr (1, [.long seed, .ref hM, .ref hO, .int (nI cnt), .ref aS, .ref aA, .ref aB, .ref aN, .ref aM, .ref aL, .int vb, .int vs, .ref aT, .int (-1)])), (aL, .inl (K.2.1, 62, .inl (bd_la (fun f => bd_lo (fun f k => bd_cg f fN fM vb vs cnt k) cnt f 0) 63 fL 1))), (aN, .inl (K.1, 62, .inl fN)), (aM, .inl (K.1, 62, .inl fM))] (va_A [(h0, .inr (1, [.long seed, .ref hM, .ref hO, .int (nI cnt), .ref aS, .ref aA, .ref aB, .ref aN, .ref aM, .ref aL, .int vb, .int vs, .ref aT, .int tl])), (aL, .inl (K.2.1, 62, .inl fL)), (aN, .inl (K.1, 62, .inl fN)), (aM, .inl (K.1, 62, .inl fM))] sz)) 0 0 (va_A [(h0, .inr (1, [.long seed, .ref hM, .ref hO, .int (nI cnt), .ref aS, .ref aA, .ref aB, .ref aN, .ref aM, .ref aL, .int vb, .int vs, .ref aT, .int tl])), (aL, .inl (K.2.1, 62, .inl fL)), (aN, .inl (K.1, 62, .inl fN)), (aM, .inl (K.1, 62, .inl fM))] sz) := by
  refine Met.ofW (cc := prog_1_method_18_code) (maxL := 3) (ret := none) (by decide) rfl ?_
  intro p e s m args below meth c s₁ B hml hv
  obtain ⟨rfl, hsz, hP, hK, hD0, hE⟩ := hv
  have hx := B.exec
  have hb := B.bytes
  have hr := B.returns
  have hts := atoms_spec (ws := w_B_leaveOutAllThatCanGo) B.pre
  have hw : ∀ w ∈ cw, w.before _ s = true := fun w h => hts w (List.mem_cons_of_mem _ h)
  have hown : s.vm.findClass "BuildDrawer" = some m.cls := findClass_of_methodNamed B.named
  have hlocks := B.notSynchronized
  subst hsz
  have hD := hD0.self (sz := s.heap.size)
  generalize hAe : va_A [(h0, .inr (1, [.long seed, .ref hM, .ref hO, .int (nI cnt), .ref aS, .ref aA, .ref aB, .ref aN, .ref aM, .ref aL, .int vb, .int vs, .ref aT, .int tl])), (aL, .inl (K.2.1, 62, .inl fL)), (aN, .inl (K.1, 62, .inl fN)), (aM, .inl (K.1, 62, .inl fM))] s.heap.size = A at hD hE ⊢
  have hA : ∀ q : Nat, s.heap.size ≤ q → A q := fun q h => by rw [← hAe]; exact Or.inr h
  have hS : va_S A s.heap s.heap [] := va_S.rf
  have hl := lv_entry ([.ref h0]) (n := 3) (Nat.le_of_ble_eq_true rfl)
  rw [lg_entry_eq]
  generalize (lg_sl ([.ref h0]) ++ List.replicate (3 - (lg_sl ([.ref h0])).length) Slot.unset).toArray = ls at hl ⊢
  have hl : lv_has ls 3 [(0, .ref h0)] := hl
  refine lv_iconst (v := 1) hx hb d_B_leaveOutAllThatCanGo_0 (by decide) ?_
  refine lv_istore_n (lv' := [(1, .int 1), (0, .ref h0)]) hx hb d_B_leaveOutAllThatCanGo_1 rfl hl (by decide) rfl (fun ls hl => ?_)
  refine lv_iconst (v := 0) hx hb d_B_leaveOutAllThatCanGo_2 (by decide) ?_
  refine lv_istore_n (lv' := [(2, .int 0), (1, .int 1), (0, .ref h0)]) hx hb d_B_leaveOutAllThatCanGo_3 rfl hl (by decide) rfl (fun ls hl => ?_)
  refine cx_loop (pc := 4) (st := []) (fun (z : Nat × (Nat → Int32) × Int32) H locs ls => match z with | (r, f, a) => (r ≤ 63) ∧ (bd_la (fun f => bd_lo (fun f k => bd_cg f fN fM vb vs cnt k) cnt f 0) (63 - r) f a = bd_la (fun f => bd_lo (fun f k => bd_cg f fN fM vb vs cnt k) cnt f 0) 63 fL 1) ∧ va_P D vwCl [(h0, .inr (1, [.long seed, .ref hM, .ref hO, .int (nI cnt), .ref aS, .ref aA, .ref aB, .ref aN, .ref aM, .ref aL, .int vb, .int vs, .ref aT, .int tl])), (aL, .inl (K.2.1, 62, .inl f)), (aN, .inl (K.1, 62, .inl fN)), (aM, .inl (K.1, 62, .inl fM))] H ∧ va_D A [(h0, .inr (1, [.long seed, .ref hM, .ref hO, .int (nI cnt), .ref aS, .ref aA, .ref aB, .ref aN, .ref aM, .ref aL, .int vb, .int vs, .ref aT, .int tl])), (aL, .inl (K.2.1, 62, .inl f)), (aN, .inl (K.1, 62, .inl fN)), (aM, .inl (K.1, 62, .inl fM))] ∧ va_S A s.heap H locs ∧ lv_has ls 3 [(2, .int (nI r)), (1, .int a), (0, .ref h0)]) (fun (z : Nat × (Nat → Int32) × Int32) => match z with | (r, f, a) => 63 - r) (fun z H locs ls hI ih => ?_) (0, fL, 1) ⟨Nat.zero_le _, rfl, hP, hD, hS, lv_sub hl [0, 1, 2] rfl⟩
  obtain ⟨r, f, a⟩ := z
  obtain ⟨hr9, hb9, hP, hD, hS, hl⟩ := hI
  have hP : va_P D vwCl [(h0, .inr (1, [.long seed, .ref hM, .ref hO, .int (nI cnt), .ref aS, .ref aA, .ref aB, .ref aN, .ref aM, .ref aL, .int vb, .int vs, .ref aT, .int tl])), (aL, .inl (K.2.1, 62, .inl f)), (aN, .inl (K.1, 62, .inl fN)), (aM, .inl (K.1, 62, .inl fM))] H := hP
  have hD : va_D A [(h0, .inr (1, [.long seed, .ref hM, .ref hO, .int (nI cnt), .ref aS, .ref aA, .ref aB, .ref aN, .ref aM, .ref aL, .int vb, .int vs, .ref aT, .int tl])), (aL, .inl (K.2.1, 62, .inl f)), (aN, .inl (K.1, 62, .inl fN)), (aM, .inl (K.1, 62, .inl fM))] := hD
  have hl : lv_has ls 3 [(2, .int (nI r)), (1, .int a), (0, .ref h0)] := hl
  refine lv_iload_n hx hb d_B_leaveOutAllThatCanGo_4 rfl (lv_at hl 1 rfl) ?_
  refine lv_if_eq (tgt := 25) hx hb d_B_leaveOutAllThatCanGo_5 (by decide) (fun r_5 => ?_) (fun r_5 => ?_)
  · have c_5 := r_5
    refine lv_aload_n hx hb d_B_leaveOutAllThatCanGo_25 rfl (lv_at hl 2 rfl) ?_
    refine lv_iconst (v := (-1)) hx hb d_B_leaveOutAllThatCanGo_26 (by decide) ?_
    refine va_put (D := D) (ci := 1) (v := .int (-1)) (ty := .int) (C := "BuildDrawer") (T := TB) (N := 14) hx hb hw inB tyB tyB_ok nmB hown hK hP hD hS 0 rfl rfl 13 (by decide) (hw _ k_69) (fun _ h9 => h9) rfl (by decide +kernel) rfl rfl (Nat.le_of_ble_eq_true rfl) d_B_leaveOutAllThatCanGo_27 (fun H locs hP hD hS => ?_)
    have hP : va_P D vwCl [(h0, .inr (1, [.long seed, .ref hM, .ref hO, .int (nI cnt), .ref aS, .ref aA, .ref aB, .ref aN, .ref aM, .ref aL, .int vb, .int vs, .ref aT, .int (-1)])), (aL, .inl (K.2.1, 62, .inl f)), (aN, .inl (K.1, 62, .inl fN)), (aM, .inl (K.1, 62, .inl fM))] H := hP
    have hD : va_D A [(h0, .inr (1, [.long seed, .ref hM, .ref hO, .int (nI cnt), .ref aS, .ref aA, .ref aB, .ref aN, .ref aM, .ref aL, .int vb, .int vs, .ref aT, .int (-1)])), (aL, .inl (K.2.1, 62, .inl f)), (aN, .inl (K.1, 62, .inl fN)), (aM, .inl (K.1, 62, .inl fM))] := hD
    exact cx_vret hx hb hr hlocks hK hP hD hS d_B_leaveOutAllThatCanGo_30 (by rw [← hb9]; first | (rw [show 63 - r = 0 by omega, bd_la]) | (rcases hz : 63 - r with _ | n9 <;> rw [bd_la]; rw [if_pos r_5]))
  · have c_5 := r_5
    refine lv_iload_n hx hb d_B_leaveOutAllThatCanGo_8 rfl (lv_at hl 0 rfl) ?_
    refine lv_bipush (v := 62) hx hb d_B_leaveOutAllThatCanGo_9 (by decide) ?_
    refine lv_icmp_gt (tgt := 25) hx hb d_B_leaveOutAllThatCanGo_11 (by decide) (fun r_11 => ?_) (fun r_11 => ?_)
    · have c_11 := (nI_ltI (a := 62) (b := r) (by omega) (by omega)).mp r_11
      refine lv_aload_n hx hb d_B_leaveOutAllThatCanGo_25 rfl (lv_at hl 2 rfl) ?_
      refine lv_iconst (v := (-1)) hx hb d_B_leaveOutAllThatCanGo_26 (by decide) ?_
      refine va_put (D := D) (ci := 1) (v := .int (-1)) (ty := .int) (C := "BuildDrawer") (T := TB) (N := 14) hx hb hw inB tyB tyB_ok nmB hown hK hP hD hS 0 rfl rfl 13 (by decide) (hw _ k_69) (fun _ h9 => h9) rfl (by decide +kernel) rfl rfl (Nat.le_of_ble_eq_true rfl) d_B_leaveOutAllThatCanGo_27 (fun H locs hP hD hS => ?_)
      have hP : va_P D vwCl [(h0, .inr (1, [.long seed, .ref hM, .ref hO, .int (nI cnt), .ref aS, .ref aA, .ref aB, .ref aN, .ref aM, .ref aL, .int vb, .int vs, .ref aT, .int (-1)])), (aL, .inl (K.2.1, 62, .inl f)), (aN, .inl (K.1, 62, .inl fN)), (aM, .inl (K.1, 62, .inl fM))] H := hP
      have hD : va_D A [(h0, .inr (1, [.long seed, .ref hM, .ref hO, .int (nI cnt), .ref aS, .ref aA, .ref aB, .ref aN, .ref aM, .ref aL, .int vb, .int vs, .ref aT, .int (-1)])), (aL, .inl (K.2.1, 62, .inl f)), (aN, .inl (K.1, 62, .inl fN)), (aM, .inl (K.1, 62, .inl fM))] := hD
      exact cx_vret hx hb hr hlocks hK hP hD hS d_B_leaveOutAllThatCanGo_30 (by rw [← hb9]; first | (rw [show 63 - r = 0 by omega, bd_la]) | (rcases hz : 63 - r with _ | n9 <;> rw [bd_la]; rw [if_pos r_5]))
    · have c_11 := mt (nI_ltI (a := 62) (b := r) (by omega) (by omega)).mpr r_11
      refine lv_aload_n hx hb d_B_leaveOutAllThatCanGo_14 rfl (lv_at hl 2 rfl) ?_
      refine cx_ci (wr := []) (wN := [(h0, .inr (1, [.long seed, .ref hM, .ref hO, .int (nI cnt), .ref aS, .ref aA, .ref aB, .ref aN, .ref aM, .ref aL, .int vb, .int vs, .ref aT, .int tl])), (aL, .inl (K.2.1, 62, .inl ((bd_lo (fun f k => bd_cg f fN fM vb vs cnt k) cnt f 0).1))), (aN, .inl (K.1, 62, .inl fN)), (aM, .inl (K.1, 62, .inl fM))]) (va_runV (As := []) (rest := []) ⟨hx, hb, hml, hown, hw⟩ (c_B_leaveOutFromLastToFirst l G D K H.size h0 seed hM hO cnt aS aA aB aN aM aL vb vs aT tl f fN fM (by omega)) (cwV 0 hw (cx_gV k_266 k_268 ks_B_leaveOutFromLastToFirst k_1 k_269) rfl rfl rfl (by decide +kernel) ⟨Nat.le_of_ble_eq_true rfl, Nat.le_of_ble_eq_true rfl⟩) (cx_preV (q0 := 0) (ci := 1) hK hP hD hS hA hE rfl rfl [0, 1, 2, 3] rfl rfl (by decide)) rfl rfl hl.1 rfl (lv_room (Nat.le_of_ble_eq_true rfl)) d_B_leaveOutAllThatCanGo_15 ⟨Nat.le_of_ble_eq_true rfl, Nat.le_of_ble_eq_true rfl⟩) hP hD hS hA [0, 1, 2, 3] [] rfl rfl (by decide) (by decide) [0, 1, 2, 3] rfl rfl (by decide) (fun H locs hP hD hS => ?_)
      refine lv_istore_n (lv' := [(1, .int ((bd_lo (fun f k => bd_cg f fN fM vb vs cnt k) cnt f 0).2)), (2, .int (nI r)), (0, .ref h0)]) hx hb d_B_leaveOutAllThatCanGo_18 rfl hl (by decide) rfl (fun ls hl => ?_)
      refine lv_iinc (v := nI (r + 1)) (lv' := [(2, .int (nI (r + 1))), (1, .int ((bd_lo (fun f k => bd_cg f fN fM vb vs cnt k) cnt f 0).2)), (0, .ref h0)]) hx hb d_B_leaveOutAllThatCanGo_19 hl (k := 1) rfl (by exact cx_inc r) (by decide) rfl (fun ls hl => ?_)
      refine lv_goto (tgt := 4) hx hb d_B_leaveOutAllThatCanGo_22 (by decide) ?_
      exact ih ((r + 1), ((bd_lo (fun f k => bd_cg f fN fM vb vs cnt k) cnt f 0).1), ((bd_lo (fun f k => bd_cg f fN fM vb vs cnt k) cnt f 0).2)) _ _ _ ⟨(by omega), (by rw [← hb9, show 63 - r = (63 - (r + 1)) + 1 by omega, bd_la, if_neg r_5]), hP, hD, hS, lv_sub hl [0, 1, 2] rfl⟩ (show 63 - (r + 1) < 63 - r by omega)
set_option maxHeartbeats 4000000 in
set_option maxRecDepth 100000 in
theorem c_B_shorter (l : Launch) (G : cx_G) (D : va_G) (K : cx_KT) (sz : Nat) (h0 : Nat) (seed : Int64) (hM : Nat) (hO : Nat) (cnt : Nat) (aS : Nat) (aA : Nat) (aB : Nat) (aN : Nat) (aM : Nat) (aL : Nat) (vb : Int32) (vs : Int32) (aT : Nat) (tl : Int32) (fL : Nat → Int32) (fN : Nat → Int32) (fM : Nat → Int32) (hcnt : cnt ≤ 62) : Met l y_B_shorter w_B_shorter ({ frames := 4, cells := 0, slots := 0, locals := 89 }) (cx_Pc G D (cx_ty K) [(h0, .inr (1, [.long seed, .ref hM, .ref hO, .int (nI cnt), .ref aS, .ref aA, .ref aB, .ref aN, .ref aM, .ref aL, .int vb, .int vs, .ref aT, .int tl])), (aL, .inl (K.2.1, 62, .inl fL)), (aN, .inl (K.1, 62, .inl fN)), (aM, .inl (K.1, 62, .inl fM))] sz [.ref h0]) (cx_Qi (nI (bd_cl (bd_sh fL fN fM vb vs cnt) cnt)) D (cx_ty K) [(h0, .inr (1, [.long seed, .ref hM, .ref hO, .int (nI cnt), .ref aS, .ref aA, .ref aB, .ref aN, .ref aM, .ref aL, .int vb, .int vs, .ref aT, .int (-1)])), (aL, .inl (K.2.1, 62, .inl (bd_sh fL fN fM vb vs cnt))), (aN, .inl (K.1, 62, .inl fN)), (aM, .inl (K.1, 62, .inl fM))] (va_A [(h0, .inr (1, [.long seed, .ref hM, .ref hO, .int (nI cnt), .ref aS, .ref aA, .ref aB, .ref aN, .ref aM, .ref aL, .int vb, .int vs, .ref aT, .int tl])), (aL, .inl (K.2.1, 62, .inl fL)), (aN, .inl (K.1, 62, .inl fN)), (aM, .inl (K.1, 62, .inl fM))] sz)) 0 0 (va_A [(h0, .inr (1, [.long seed, .ref hM, .ref hO, .int (nI cnt), .ref aS, .ref aA, .ref aB, .ref aN, .ref aM, .ref aL, .int vb, .int vs, .ref aT, .int tl])), (aL, .inl (K.2.1, 62, .inl fL)), (aN, .inl (K.1, 62, .inl fN)), (aM, .inl (K.1, 62, .inl fM))] sz) := by
  refine Met.ofW (cc := prog_1_method_6_code) (maxL := 1) (ret := (some .int)) (by decide) rfl ?_
  intro p e s m args below meth c s₁ B hml hv
  obtain ⟨rfl, hsz, hP, hK, hD0, hE⟩ := hv
  have hx := B.exec
  have hb := B.bytes
  have hr := B.returns
  have hts := atoms_spec (ws := w_B_shorter) B.pre
  have hw : ∀ w ∈ cw, w.before _ s = true := fun w h => hts w (List.mem_cons_of_mem _ h)
  have hown : s.vm.findClass "BuildDrawer" = some m.cls := findClass_of_methodNamed B.named
  have hlocks := B.notSynchronized
  subst hsz
  have hD := hD0.self (sz := s.heap.size)
  generalize hAe : va_A [(h0, .inr (1, [.long seed, .ref hM, .ref hO, .int (nI cnt), .ref aS, .ref aA, .ref aB, .ref aN, .ref aM, .ref aL, .int vb, .int vs, .ref aT, .int tl])), (aL, .inl (K.2.1, 62, .inl fL)), (aN, .inl (K.1, 62, .inl fN)), (aM, .inl (K.1, 62, .inl fM))] s.heap.size = A at hD hE ⊢
  have hA : ∀ q : Nat, s.heap.size ≤ q → A q := fun q h => by rw [← hAe]; exact Or.inr h
  have hS : va_S A s.heap s.heap [] := va_S.rf
  have hl := lv_entry ([.ref h0]) (n := 1) (Nat.le_of_ble_eq_true rfl)
  rw [lg_entry_eq]
  generalize (lg_sl ([.ref h0]) ++ List.replicate (1 - (lg_sl ([.ref h0])).length) Slot.unset).toArray = ls at hl ⊢
  have hl : lv_has ls 1 [(0, .ref h0)] := hl
  refine lv_aload_n hx hb d_B_shorter_0 rfl (lv_at hl 0 rfl) ?_
  refine lv_aload_n hx hb d_B_shorter_1 rfl (lv_at hl 0 rfl) ?_
  refine cx_ci (wr := [(aN, .inl (K.1, 62, .inl fN))]) (wN := [(h0, .inr (1, [.long seed, .ref hM, .ref hO, .int (nI cnt), .ref aS, .ref aA, .ref aB, .ref aN, .ref aM, .ref aL, .int vb, .int vs, .ref aT, .int tl])), (aL, .inl (K.2.1, 62, .inl fL)), (aN, .inl (K.1, 62, .inl fN)), (aM, .inl (K.1, 62, .inl fM))]) (va_runV (As := []) (rest := [.ref h0]) ⟨hx, hb, hml, hown, hw⟩ (c_B_marksLeft l G D K s.heap.size h0 seed hM hO cnt aS aA aB aN aM aL vb vs aT tl fL fM (by omega)) (cwV 0 hw (cx_gV k_254 k_256 ks_B_marksLeft k_1 k_257) rfl rfl rfl (by decide +kernel) ⟨Nat.le_of_ble_eq_true rfl, Nat.le_of_ble_eq_true rfl⟩) (cx_preV (q0 := 0) (ci := 1) hK hP hD hS hA hE rfl rfl [0, 1, 3] rfl rfl (by decide)) rfl rfl hl.1 rfl (lv_room (Nat.le_of_ble_eq_true rfl)) d_B_shorter_2 ⟨Nat.le_of_ble_eq_true rfl, Nat.le_of_ble_eq_true rfl⟩) hP hD hS hA [0, 1, 3] [2] rfl rfl (by decide) (by decide) [1, 2, 0, 3] rfl rfl (by decide) (fun H locs hP hD hS => ?_)
  refine cx_ci (wr := [(aL, .inl (K.2.1, 62, .inl fL)), (aN, .inl (K.1, 62, .inl fN)), (aM, .inl (K.1, 62, .inl fM))]) (wN := [(h0, .inr (1, [.long seed, .ref hM, .ref hO, .int (nI cnt), .ref aS, .ref aA, .ref aB, .ref aN, .ref aM, .ref aL, .int vb, .int vs, .ref aT, .int tl])), (aL, .inl (K.2.1, 62, .inl fL)), (aN, .inl (K.1, 62, .inl fN)), (aM, .inl (K.1, 62, .inl fM))]) (va_runV (As := [.int (bd_ml fL fM cnt)]) (rest := []) ⟨hx, hb, hml, hown, hw⟩ (c_B_holdsOf l G D K H.size h0 seed hM hO cnt aS aA aB aN aM aL vb vs aT tl (bd_ml fL fM cnt)) (cwV 1 hw (cx_gV k_258 k_260 ks_B_holdsOf k_1 k_261) rfl rfl rfl (by decide +kernel) ⟨Nat.le_of_ble_eq_true rfl, Nat.le_of_ble_eq_true rfl⟩) (cx_preV (q0 := 0) (ci := 1) hK hP hD hS hA hE rfl rfl [0] rfl rfl (by decide)) rfl rfl hl.1 rfl (lv_room (Nat.le_of_ble_eq_true rfl)) d_B_shorter_5 ⟨Nat.le_of_ble_eq_true rfl, Nat.le_of_ble_eq_true rfl⟩) hP hD hS hA [0] [1, 2, 3] rfl rfl (by decide) (by decide) [3, 0, 1, 2] rfl rfl (by decide) (fun H locs hP hD hS => ?_)
  refine lv_if_eq (tgt := 18) hx hb d_B_shorter_8 (by decide) (fun r_8 => ?_) (fun r_8 => ?_)
  · have c_8 := r_8
    refine lv_aload_n hx hb d_B_shorter_18 rfl (lv_at hl 0 rfl) ?_
    refine cx_cv (wr := [(aN, .inl (K.1, 62, .inl fN)), (aM, .inl (K.1, 62, .inl fM))]) (wN := [(h0, .inr (1, [.long seed, .ref hM, .ref hO, .int (nI cnt), .ref aS, .ref aA, .ref aB, .ref aN, .ref aM, .ref aL, .int vb, .int vs, .ref aT, .int (-1)])), (aL, .inl (K.2.1, 62, .inl (bd_all cnt fL))), (aN, .inl (K.1, 62, .inl fN)), (aM, .inl (K.1, 62, .inl fM))]) (va_runV (As := []) (rest := []) ⟨hx, hb, hml, hown, hw⟩ (c_B_takeAllBack l G D K H.size h0 seed hM hO cnt aS aA aB aN aM aL vb vs aT tl fL (by omega)) (cwV 0 hw (cx_gV k_145 k_147 ks_B_takeAllBack k_1 k_148) rfl rfl rfl (by decide +kernel) ⟨Nat.le_of_ble_eq_true rfl, Nat.le_of_ble_eq_true rfl⟩) (cx_preV (q0 := 0) (ci := 1) hK hP hD hS hA hE rfl rfl [0, 1] rfl rfl (by decide)) rfl rfl hl.1 rfl (lv_room (Nat.le_of_ble_eq_true rfl)) d_B_shorter_19 ⟨Nat.le_of_ble_eq_true rfl, Nat.le_of_ble_eq_true rfl⟩) hP hD hS hA [0, 1] [2, 3] rfl rfl (by decide) (by decide) [2, 3, 0, 1] rfl rfl (by decide) (fun H locs hP hD hS => ?_)
    refine lv_aload_n hx hb d_B_shorter_22 rfl (lv_at hl 0 rfl) ?_
    refine cx_ci (wr := [(aN, .inl (K.1, 62, .inl fN)), (aM, .inl (K.1, 62, .inl fM))]) (wN := [(h0, .inr (1, [.long seed, .ref hM, .ref hO, .int (nI cnt), .ref aS, .ref aA, .ref aB, .ref aN, .ref aM, .ref aL, .int vb, .int vs, .ref aT, .int (-1)])), (aL, .inl (K.2.1, 62, .inl (bd_all cnt fL))), (aN, .inl (K.1, 62, .inl fN)), (aM, .inl (K.1, 62, .inl fM))]) (va_runV (As := []) (rest := []) ⟨hx, hb, hml, hown, hw⟩ (c_B_countLeft l G D K H.size h0 seed hM hO cnt aS aA aB aN aM aL vb vs aT (-1) (bd_all cnt fL) (by omega)) (cwV 0 hw (cx_gV k_274 k_276 ks_B_countLeft k_1 k_277) rfl rfl rfl (by decide +kernel) ⟨Nat.le_of_ble_eq_true rfl, Nat.le_of_ble_eq_true rfl⟩) (cx_preV (q0 := 0) (ci := 1) hK hP hD hS hA hE rfl rfl [0, 1] rfl rfl (by decide)) rfl rfl hl.1 rfl (lv_room (Nat.le_of_ble_eq_true rfl)) d_B_shorter_23 ⟨Nat.le_of_ble_eq_true rfl, Nat.le_of_ble_eq_true rfl⟩) hP hD hS hA [0, 1] [2, 3] rfl rfl (by decide) (by decide) [2, 3, 0, 1] rfl rfl (by decide) (fun H locs hP hD hS => ?_)
    exact cx_iret hx hb hr hlocks hK hP hD hS d_B_shorter_26 (by rw [bd_sh, if_pos r_8]) (by rw [bd_sh, if_pos r_8])
  · have c_8 := r_8
    refine lv_aload_n hx hb d_B_shorter_11 rfl (lv_at hl 0 rfl) ?_
    refine cx_cv (wr := []) (wN := [(h0, .inr (1, [.long seed, .ref hM, .ref hO, .int (nI cnt), .ref aS, .ref aA, .ref aB, .ref aN, .ref aM, .ref aL, .int vb, .int vs, .ref aT, .int (-1)])), (aL, .inl (K.2.1, 62, .inl (bd_la (fun f => bd_lo (fun f k => bd_cg f fN fM vb vs cnt k) cnt f 0) 63 fL 1))), (aN, .inl (K.1, 62, .inl fN)), (aM, .inl (K.1, 62, .inl fM))]) (va_runV (As := []) (rest := []) ⟨hx, hb, hml, hown, hw⟩ (c_B_leaveOutAllThatCanGo l G D K H.size h0 seed hM hO cnt aS aA aB aN aM aL vb vs aT tl fL fN fM (by omega)) (cwV 0 hw (cx_gV k_262 k_264 ks_B_leaveOutAllThatCanGo k_1 k_265) rfl rfl rfl (by decide +kernel) ⟨Nat.le_of_ble_eq_true rfl, Nat.le_of_ble_eq_true rfl⟩) (cx_preV (q0 := 0) (ci := 1) hK hP hD hS hA hE rfl rfl [0, 1, 2, 3] rfl rfl (by decide)) rfl rfl hl.1 rfl (lv_room (Nat.le_of_ble_eq_true rfl)) d_B_shorter_12 ⟨Nat.le_of_ble_eq_true rfl, Nat.le_of_ble_eq_true rfl⟩) hP hD hS hA [0, 1, 2, 3] [] rfl rfl (by decide) (by decide) [0, 1, 2, 3] rfl rfl (by decide) (fun H locs hP hD hS => ?_)
    refine lv_goto (tgt := 22) hx hb d_B_shorter_15 (by decide) ?_
    refine lv_aload_n hx hb d_B_shorter_22 rfl (lv_at hl 0 rfl) ?_
    refine cx_ci (wr := [(aN, .inl (K.1, 62, .inl fN)), (aM, .inl (K.1, 62, .inl fM))]) (wN := [(h0, .inr (1, [.long seed, .ref hM, .ref hO, .int (nI cnt), .ref aS, .ref aA, .ref aB, .ref aN, .ref aM, .ref aL, .int vb, .int vs, .ref aT, .int (-1)])), (aL, .inl (K.2.1, 62, .inl (bd_la (fun f => bd_lo (fun f k => bd_cg f fN fM vb vs cnt k) cnt f 0) 63 fL 1))), (aN, .inl (K.1, 62, .inl fN)), (aM, .inl (K.1, 62, .inl fM))]) (va_runV (As := []) (rest := []) ⟨hx, hb, hml, hown, hw⟩ (c_B_countLeft l G D K H.size h0 seed hM hO cnt aS aA aB aN aM aL vb vs aT (-1) (bd_la (fun f => bd_lo (fun f k => bd_cg f fN fM vb vs cnt k) cnt f 0) 63 fL 1) (by omega)) (cwV 0 hw (cx_gV k_274 k_276 ks_B_countLeft k_1 k_277) rfl rfl rfl (by decide +kernel) ⟨Nat.le_of_ble_eq_true rfl, Nat.le_of_ble_eq_true rfl⟩) (cx_preV (q0 := 0) (ci := 1) hK hP hD hS hA hE rfl rfl [0, 1] rfl rfl (by decide)) rfl rfl hl.1 rfl (lv_room (Nat.le_of_ble_eq_true rfl)) d_B_shorter_23 ⟨Nat.le_of_ble_eq_true rfl, Nat.le_of_ble_eq_true rfl⟩) hP hD hS hA [0, 1] [2, 3] rfl rfl (by decide) (by decide) [2, 3, 0, 1] rfl rfl (by decide) (fun H locs hP hD hS => ?_)
    exact cx_iret hx hb hr hlocks hK hP hD hS d_B_shorter_26 (by rw [bd_sh, if_neg r_8]) (by rw [bd_sh, if_neg r_8])
end
section
/-! what a seed draws of a kind k and a size z: the word before part i, and part i -/
def bd_gW (seed : Int64) (k z : Nat) : Nat → Int64
  | 0 => bd_wb seed (nI k) (nI z)
  | i + 1 => bd_nW (bd_sk k) (nI i) (bd_gW seed k z i)
def bd_gS (seed : Int64) (k z i : Nat) : Int32 := bd_nS (bd_sk k) (nI i) (bd_gW seed k z i)
def bd_gA (seed : Int64) (k z i : Nat) : Int32 := bd_nA (nI i) (bd_gW seed k z i)
def bd_gB (seed : Int64) (k z i : Nat) : Int32 := bd_nB (bd_sk k) (bd_pb seed (nI k) (nI z)) (nI i) (bd_gW seed k z i)
def bd_gN (seed : Int64) (k z i : Nat) : Int32 := bd_nN (bd_sk k) (nI i) (bd_gW seed k z i)
def bd_gM (seed : Int64) (k z i : Nat) : Int32 := bd_nM (bd_sk k) (nI i) (bd_gW seed k z i)
def bd_last (x : Int32) (g : Nat → Int32) : Nat → Int32
  | 0 => x
  | i + 1 => g i
theorem bd_m1 : nI 0 - 1 = -1 := by decide
theorem bd_pm1 (n : Nat) : nI n - 1 + 1 = nI n := Int32.sub_add_cancel _ _
theorem bd_can_in {k z : Nat} (hk : k < 8) (hz : z ≤ 60) : bd_can (nI k) (nI z) = 1 := by
  rw [bd_can, if_neg (nI_pos (by omega)), if_neg (show ¬ (8 : Int32) ≤ nI k from nI_ge (b := 8) hk (by omega)), if_neg (nI_pos (by omega)), if_neg (show ¬ (60 : Int32) < nI z from nI_nlt (a := 60) (b := z) hz (by omega))]
theorem bd_can_of {k z : Int32} (h : ¬ bd_can k z = 0) : ∃ a b : Nat, a < 8 ∧ b ≤ 60 ∧ k = nI a ∧ z = nI b := by
  by_cases h1 : k < 0
  · exact absurd (by rw [bd_can, if_pos h1]) h
  · by_cases h2 : 8 ≤ k
    · exact absurd (by rw [bd_can, if_neg h1, if_pos h2]) h
    · by_cases h3 : z < 0
      · exact absurd (by rw [bd_can, if_neg h1, if_neg h2, if_pos h3]) h
      · by_cases h4 : 60 < z
        · exact absurd (by rw [bd_can, if_neg h1, if_neg h2, if_neg h3, if_pos h4]) h
        · rcases pk_ix k (n := 8) (by omega) with h5 | h5 | ⟨a, ha, rfl⟩
          · exact absurd h5 h1
          · exact absurd h5 h2
          · obtain ⟨b, hb, rfl⟩ := nI_of2 (M := 60) (n := 60) (by decide) h3 (Int32.not_lt.mp h4)
            exact ⟨a, b, ha, hb, rfl, rfl⟩
def bd_sa (s1 s2 : Int64) (k z : Nat) : Nat → Nat → Int32
  | 0, _ => 1
  | n + 1, i => if bd_like (bd_gS s1 k z i) (bd_gA s1 k z i) (bd_gB s1 k z i) (bd_gN s1 k z i) (bd_gM s1 k z i) (bd_gS s2 k z i) (bd_gA s2 k z i) (bd_gB s2 k z i) (bd_gN s2 k z i) (bd_gM s2 k z i) = 0 then 0 else bd_sa s1 s2 k z n (i + 1)
/-- a world of which some cells' fields are not told -/
def cx_Qx (r0 : Int32) (D : va_G) (tys : List (ClassId × FieldType)) (w1 : (Nat → Int64) → (Nat → Int32) → va_W) (A : Nat → Prop) : Array Value → State → Outcome → State → Prop := va_Qi (S := (Nat → Int64) × (Nat → Int32)) (fun r _ => r = r0) (fun u => cx_B D tys A (w1 u.1 u.2)) A
theorem cx_zretx {p : Program} {l : Launch} {e : Env} {R : Room} {s : State} {m : MethodId} {args : Array Value} {below : List Frame} {meth : Method} {c : Code} {H : Heap} {locs : List Loc} {cells slots : Nat} {cc : ByteArray} {pc : Nat} {ls : Array Slot} {D : va_G} {A : Nat → Prop} {r r0 : Int32} {ty : FieldType} {tys : List (ClassId × FieldType)} {w : va_W} {w1 : (Nat → Int64) → (Nat → Int32) → va_W} (hx : p.tables.exec = Jvm.exec) (hb : c.code = cc) (hr : meth.sig.returnType = some ty) (hlocks : meth.locks = false) (hK : va_K D vwCl tys s) (hP : va_P D vwCl w H) (hD : va_D A w) (hS : va_S A s.heap H locs) (hdg : decode cc pc = .ok (.ireturn, 1)) (hn : narrow ty (.int r) = .int r) (he : r = r0) (u1 : Nat → Int64) (u2 : Nat → Int32) (hw : w = w1 u1 u2) : W p l e R s m args below meth c H locs cells slots (MQ below (cx_Qx r0 D tys w1 A) args s cells slots A) (F0 m pc ls [.int r]) := by
  subst hw
  exact W.zret hx hb hr hn (fun t ht hW => ⟨⟨r, (u1, u2), rfl, he, by rw [ht]; exact hP, va_K.moved hW.alike hK, hD⟩, hS.F ht⟩) hS.2.2 hdg hlocks
set_option maxHeartbeats 4000000 in
set_option maxRecDepth 100000 in
theorem c_B_draw (l : Launch) (G : cx_G) (D : va_G) (K : cx_KT) (sz : Nat) (h0 : Nat) (seed : Int64) (hM : Nat) (hO : Nat) (cnt : Nat) (aS : Nat) (aA : Nat) (aB : Nat) (aN : Nat) (aM : Nat) (aL : Nat) (vb : Int32) (vs : Int32) (aT : Nat) (tl : Int32) (w : Int64) (sk : Int32) (pb : Int32) (nu : Int32) (so : Int32) (fa : Int32) (fb : Int32) (ne : Int32) (mk : Int32) (fS : Nat → Int32) (fA : Nat → Int32) (fB : Nat → Int32) (fN : Nat → Int32) (fM : Nat → Int32) (fL : Nat → Int32) (kk : Nat) (zz : Nat) (hkk : kk < 8) (hzz : zz ≤ 60) : Met l y_B_draw w_B_draw ({ frames := 4, cells := 0, slots := 0, locals := 83 }) (cx_Pc G D (cx_ty K) [(h0, .inr (1, [.long seed, .ref hM, .ref hO, .int (nI cnt), .ref aS, .ref aA, .ref aB, .ref aN, .ref aM, .ref aL, .int vb, .int vs, .ref aT, .int tl])), (hM, .inr (0, [.long w, .int sk, .int pb, .int nu, .int so, .int fa, .int fb, .int ne, .int mk])), (aS, .inl (K.1, 62, .inl fS)), (aA, .inl (K.1, 62, .inl fA)), (aB, .inl (K.1, 62, .inl fB)), (aN, .inl (K.1, 62, .inl fN)), (aM, .inl (K.1, 62, .inl fM)), (aL, .inl (K.2.1, 62, .inl fL))] sz [.ref h0, .int (nI kk), .int (nI zz)]) (cx_Qi (nI (zz + 2)) D (cx_ty K) [(h0, .inr (1, [.long seed, .ref hM, .ref hO, .int (nI (zz + 2)), .ref aS, .ref aA, .ref aB, .ref aN, .ref aM, .ref aL, .int vb, .int vs, .ref aT, .int (-1)])), (hM, .inr (0, [.long (bd_gW seed kk zz (zz + 2)), .int (bd_sk kk), .int (bd_pb seed (nI kk) (nI zz)), .int (nI (zz + 2) - 1), .int (bd_last so (bd_gS seed kk zz) (zz + 2)), .int (bd_last fa (bd_gA seed kk zz) (zz + 2)), .int (bd_last fb (bd_gB seed kk zz) (zz + 2)), .int (bd_last ne (bd_gN seed kk zz) (zz + 2)), .int (bd_last mk (bd_gM seed kk zz) (zz + 2))])), (aS, .inl (K.1, 62, .inl (bd_fil (bd_gS seed kk zz) (zz + 2) fS))), (aA, .inl (K.1, 62, .inl (bd_fil (bd_gA seed kk zz) (zz + 2) fA))), (aB, .inl (K.1, 62, .inl (bd_fil (bd_gB seed kk zz) (zz + 2) fB))), (aN, .inl (K.1, 62, .inl (bd_fil (bd_gN seed kk zz) (zz + 2) fN))), (aM, .inl (K.1, 62, .inl (bd_fil (bd_gM seed kk zz) (zz + 2) fM))), (aL, .inl (K.2.1, 62, .inl (bd_all (zz + 2) fL)))] (va_A [(h0, .inr (1, [.long seed, .ref hM, .ref hO, .int (nI cnt), .ref aS, .ref aA, .ref aB, .ref aN, .ref aM, .ref aL, .int vb, .int vs, .ref aT, .int tl])), (hM, .inr (0, [.long w, .int sk, .int pb, .int nu, .int so, .int fa, .int fb, .int ne, .int mk])), (aS, .inl (K.1, 62, .inl fS)), (aA, .inl (K.1, 62, .inl fA)), (aB, .inl (K.1, 62, .inl fB)), (aN, .inl (K.1, 62, .inl fN)), (aM, .inl (K.1, 62, .inl fM)), (aL, .inl (K.2.1, 62, .inl fL))] sz)) 0 0 (va_A [(h0, .inr (1, [.long seed, .ref hM, .ref hO, .int (nI cnt), .ref aS, .ref aA, .ref aB, .ref aN, .ref aM, .ref aL, .int vb, .int vs, .ref aT, .int tl])), (hM, .inr (0, [.long w, .int sk, .int pb, .int nu, .int so, .int fa, .int fb, .int ne, .int mk])), (aS, .inl (K.1, 62, .inl fS)), (aA, .inl (K.1, 62, .inl fA)), (aB, .inl (K.1, 62, .inl fB)), (aN, .inl (K.1, 62, .inl fN)), (aM, .inl (K.1, 62, .inl fM)), (aL, .inl (K.2.1, 62, .inl fL))] sz) := by
  refine Met.ofW (cc := prog_1_method_2_code) (maxL := 4) (ret := (some .int)) (by decide) rfl ?_
  intro p e s m args below meth c s₁ B hml hv
  obtain ⟨rfl, hsz, hP, hK, hD0, hE⟩ := hv
  have hx := B.exec
  have hb := B.bytes
  have hr := B.returns
  have hts := atoms_spec (ws := w_B_draw) B.pre
  have hw : ∀ w ∈ cw, w.before _ s = true := fun w h => hts w (List.mem_cons_of_mem _ h)
  have hown : s.vm.findClass "BuildDrawer" = some m.cls := findClass_of_methodNamed B.named
  have hlocks := B.notSynchronized
  subst hsz
  have hD := hD0.self (sz := s.heap.size)
  generalize hAe : va_A [(h0, .inr (1, [.long seed, .ref hM, .ref hO, .int (nI cnt), .ref aS, .ref aA, .ref aB, .ref aN, .ref aM, .ref aL, .int vb, .int vs, .ref aT, .int tl])), (hM, .inr (0, [.long w, .int sk, .int pb, .int nu, .int so, .int fa, .int fb, .int ne, .int mk])), (aS, .inl (K.1, 62, .inl fS)), (aA, .inl (K.1, 62, .inl fA)), (aB, .inl (K.1, 62, .inl fB)), (aN, .inl (K.1, 62, .inl fN)), (aM, .inl (K.1, 62, .inl fM)), (aL, .inl (K.2.1, 62, .inl fL))] s.heap.size = A at hD hE ⊢
  have hA : ∀ q : Nat, s.heap.size ≤ q → A q := fun q h => by rw [← hAe]; exact Or.inr h
  have hS : va_S A s.heap s.heap [] := va_S.rf
  have hl := lv_entry ([.ref h0, .int (nI kk), .int (nI zz)]) (n := 4) (Nat.le_of_ble_eq_true rfl)
  rw [lg_entry_eq]
  generalize (lg_sl ([.ref h0, .int (nI kk), .int (nI zz)]) ++ List.replicate (4 - (lg_sl ([.ref h0, .int (nI kk), .int (nI zz)])).length) Slot.unset).toArray = ls at hl ⊢
  have hl : lv_has ls 4 [(0, .ref h0), (1, .int (nI kk)), (2, .int (nI zz))] := hl
  refine lv_iload_n hx hb d_B_draw_0 rfl (lv_at hl 1 rfl) ?_
  refine lv_iload_n hx hb d_B_draw_1 rfl (lv_at hl 2 rfl) ?_
  refine cx_ci (wr := [(h0, .inr (1, [.long seed, .ref hM, .ref hO, .int (nI cnt), .ref aS, .ref aA, .ref aB, .ref aN, .ref aM, .ref aL, .int vb, .int vs, .ref aT, .int tl])), (hM, .inr (0, [.long w, .int sk, .int pb, .int nu, .int so, .int fa, .int fb, .int ne, .int mk])), (aS, .inl (K.1, 62, .inl fS)), (aA, .inl (K.1, 62, .inl fA)), (aB, .inl (K.1, 62, .inl fB)), (aN, .inl (K.1, 62, .inl fN)), (aM, .inl (K.1, 62, .inl fM)), (aL, .inl (K.2.1, 62, .inl fL))]) (wN := [(h0, .inr (1, [.long seed, .ref hM, .ref hO, .int (nI cnt), .ref aS, .ref aA, .ref aB, .ref aN, .ref aM, .ref aL, .int vb, .int vs, .ref aT, .int tl])), (hM, .inr (0, [.long w, .int sk, .int pb, .int nu, .int so, .int fa, .int fb, .int ne, .int mk])), (aS, .inl (K.1, 62, .inl fS)), (aA, .inl (K.1, 62, .inl fA)), (aB, .inl (K.1, 62, .inl fB)), (aN, .inl (K.1, 62, .inl fN)), (aM, .inl (K.1, 62, .inl fM)), (aL, .inl (K.2.1, 62, .inl fL))]) (va_runS (As := [.int (nI kk), .int (nI zz)]) (rest := []) ⟨hx, hb, hml, hown, hw⟩ (c_B_canBeDrawn l G D K s.heap.size (nI kk) (nI zz)) (va_cwS 2 hw (cx_gS k_106 k_107 k_1 k_108) rfl rfl rfl (by decide +kernel) ⟨Nat.le_of_ble_eq_true rfl, Nat.le_of_ble_eq_true rfl⟩) (cx_pre hK hP hD hS hA hE [] rfl rfl (by decide)) rfl rfl hl.1 rfl (lv_room (Nat.le_of_ble_eq_true rfl)) d_B_draw_2 ⟨Nat.le_of_ble_eq_true rfl, Nat.le_of_ble_eq_true rfl⟩) hP hD hS hA [] [0, 1, 2, 3, 4, 5, 6, 7] rfl rfl (by decide) (by decide) [0, 1, 2, 3, 4, 5, 6, 7] rfl rfl (by decide) (fun H locs hP hD hS => ?_)
  refine cx_ti (y := 1) (bd_can_in hkk hzz) ?_
  refine lv_if_ne (tgt := 11) hx hb d_B_draw_5 (by decide) (fun r_5 => ?_) (fun r_5 => ?_)
  · have c_5 := r_5
    refine lv_aload_n hx hb d_B_draw_11 rfl (lv_at hl 0 rfl) ?_
    refine va_get (D := D) (ci := 1) (v := .ref hM) (C := "BuildDrawer") (T := TB) (N := 14) hx hb hw inB hown hK hP 0 rfl rfl 1 (by decide) (hw _ k_57) (fun _ h9 => h9) rfl d_B_draw_12 ?_
    refine lv_aload_n hx hb d_B_draw_15 rfl (lv_at hl 0 rfl) ?_
    refine va_get (D := D) (ci := 1) (v := .long seed) (C := "BuildDrawer") (T := TB) (N := 14) hx hb hw inB hown hK hP 0 rfl rfl 0 (by decide) (hw _ k_56) (fun _ h9 => h9) rfl d_B_draw_16 ?_
    refine lv_iload_n hx hb d_B_draw_19 rfl (lv_at hl 1 rfl) ?_
    refine lv_iload_n hx hb d_B_draw_20 rfl (lv_at hl 2 rfl) ?_
    refine cx_cv (wr := [(h0, .inr (1, [.long seed, .ref hM, .ref hO, .int (nI cnt), .ref aS, .ref aA, .ref aB, .ref aN, .ref aM, .ref aL, .int vb, .int vs, .ref aT, .int tl])), (aS, .inl (K.1, 62, .inl fS)), (aA, .inl (K.1, 62, .inl fA)), (aB, .inl (K.1, 62, .inl fB)), (aN, .inl (K.1, 62, .inl fN)), (aM, .inl (K.1, 62, .inl fM)), (aL, .inl (K.2.1, 62, .inl fL))]) (wN := [(h0, .inr (1, [.long seed, .ref hM, .ref hO, .int (nI cnt), .ref aS, .ref aA, .ref aB, .ref aN, .ref aM, .ref aL, .int vb, .int vs, .ref aT, .int tl])), (hM, .inr (0, [.long (bd_wb seed (nI kk) (nI zz)), .int (bd_sk kk), .int (bd_pb seed (nI kk) (nI zz)), .int (-1), .int so, .int fa, .int fb, .int ne, .int mk])), (aS, .inl (K.1, 62, .inl fS)), (aA, .inl (K.1, 62, .inl fA)), (aB, .inl (K.1, 62, .inl fB)), (aN, .inl (K.1, 62, .inl fN)), (aM, .inl (K.1, 62, .inl fM)), (aL, .inl (K.2.1, 62, .inl fL))]) (va_runVN (As := [.long seed, .int (nI kk), .int (nI zz)]) (rest := []) ⟨hx, hb, hml, hown, hw⟩ (c_D_begin l G D K H.size hM w sk pb nu so fa fb ne mk seed kk (nI zz) (by omega)) ⟨va_cnB 3 hw (cx_gI k_112) rfl rfl rfl (hE.1 _ kn_109) (hw _ k_2) (by decide +kernel) ⟨Nat.le_of_ble_eq_true rfl, Nat.le_of_ble_eq_true rfl⟩, hw _ k_111, hw _ ks_D_begin⟩ (cx_preV (q0 := 1) (ci := 0) hK hP hD hS hA hE rfl rfl [1] rfl rfl (by decide)) rfl rfl hl.1 rfl (lv_room (Nat.le_of_ble_eq_true rfl)) d_B_draw_21 ⟨Nat.le_of_ble_eq_true rfl, Nat.le_of_ble_eq_true rfl⟩) hP hD hS hA [1] [0, 2, 3, 4, 5, 6, 7] rfl rfl (by decide) (by decide) [0, 7, 1, 2, 3, 4, 5, 6] rfl rfl (by decide) (fun H locs hP hD hS => ?_)
    refine lv_aload_n hx hb d_B_draw_24 rfl (lv_at hl 0 rfl) ?_
    refine lv_iload_n hx hb d_B_draw_25 rfl (lv_at hl 2 rfl) ?_
    refine lv_iconst (v := 2) hx hb d_B_draw_26 (by decide) ?_
    refine lv_iadd hx hb d_B_draw_27 ?_
    refine cx_ti (y := nI (zz + 2)) (by exact nI_add zz 2) ?_
    refine va_put (D := D) (ci := 1) (v := .int (nI (zz + 2))) (ty := .int) (C := "BuildDrawer") (T := TB) (N := 14) hx hb hw inB tyB tyB_ok nmB hown hK hP hD hS 0 rfl rfl 3 (by decide) (hw _ k_59) (fun _ h9 => h9) rfl (by decide +kernel) rfl rfl (Nat.le_of_ble_eq_true rfl) d_B_draw_28 (fun H locs hP hD hS => ?_)
    have hP : va_P D vwCl [(h0, .inr (1, [.long seed, .ref hM, .ref hO, .int (nI (zz + 2)), .ref aS, .ref aA, .ref aB, .ref aN, .ref aM, .ref aL, .int vb, .int vs, .ref aT, .int tl])), (hM, .inr (0, [.long (bd_wb seed (nI kk) (nI zz)), .int (bd_sk kk), .int (bd_pb seed (nI kk) (nI zz)), .int (-1), .int so, .int fa, .int fb, .int ne, .int mk])), (aS, .inl (K.1, 62, .inl fS)), (aA, .inl (K.1, 62, .inl fA)), (aB, .inl (K.1, 62, .inl fB)), (aN, .inl (K.1, 62, .inl fN)), (aM, .inl (K.1, 62, .inl fM)), (aL, .inl (K.2.1, 62, .inl fL))] H := hP
    have hD : va_D A [(h0, .inr (1, [.long seed, .ref hM, .ref hO, .int (nI (zz + 2)), .ref aS, .ref aA, .ref aB, .ref aN, .ref aM, .ref aL, .int vb, .int vs, .ref aT, .int tl])), (hM, .inr (0, [.long (bd_wb seed (nI kk) (nI zz)), .int (bd_sk kk), .int (bd_pb seed (nI kk) (nI zz)), .int (-1), .int so, .int fa, .int fb, .int ne, .int mk])), (aS, .inl (K.1, 62, .inl fS)), (aA, .inl (K.1, 62, .inl fA)), (aB, .inl (K.1, 62, .inl fB)), (aN, .inl (K.1, 62, .inl fN)), (aM, .inl (K.1, 62, .inl fM)), (aL, .inl (K.2.1, 62, .inl fL))] := hD
    refine lv_iconst (v := 0) hx hb d_B_draw_31 (by decide) ?_
    refine lv_istore_n (lv' := [(3, .int 0), (0, .ref h0), (1, .int (nI kk)), (2, .int (nI zz))]) hx hb d_B_draw_32 rfl hl (by decide) rfl (fun ls hl => ?_)
    have hP : va_P D vwCl [(h0, .inr (1, [.long seed, .ref hM, .ref hO, .int (nI (zz + 2)), .ref aS, .ref aA, .ref aB, .ref aN, .ref aM, .ref aL, .int vb, .int vs, .ref aT, .int tl])), (hM, .inr (0, [.long (bd_gW seed kk zz 0), .int (bd_sk kk), .int (bd_pb seed (nI kk) (nI zz)), .int (nI 0 - 1), .int (bd_last so (bd_gS seed kk zz) 0), .int (bd_last fa (bd_gA seed kk zz) 0), .int (bd_last fb (bd_gB seed kk zz) 0), .int (bd_last ne (bd_gN seed kk zz) 0), .int (bd_last mk (bd_gM seed kk zz) 0)])), (aS, .inl (K.1, 62, .inl (bd_fil (bd_gS seed kk zz) 0 fS))), (aA, .inl (K.1, 62, .inl (bd_fil (bd_gA seed kk zz) 0 fA))), (aB, .inl (K.1, 62, .inl (bd_fil (bd_gB seed kk zz) 0 fB))), (aN, .inl (K.1, 62, .inl (bd_fil (bd_gN seed kk zz) 0 fN))), (aM, .inl (K.1, 62, .inl (bd_fil (bd_gM seed kk zz) 0 fM))), (aL, .inl (K.2.1, 62, .inl fL))] H := by simp only [bd_fil0, bd_m1]; exact hP
    have hD : va_D A [(h0, .inr (1, [.long seed, .ref hM, .ref hO, .int (nI (zz + 2)), .ref aS, .ref aA, .ref aB, .ref aN, .ref aM, .ref aL, .int vb, .int vs, .ref aT, .int tl])), (hM, .inr (0, [.long (bd_gW seed kk zz 0), .int (bd_sk kk), .int (bd_pb seed (nI kk) (nI zz)), .int (nI 0 - 1), .int (bd_last so (bd_gS seed kk zz) 0), .int (bd_last fa (bd_gA seed kk zz) 0), .int (bd_last fb (bd_gB seed kk zz) 0), .int (bd_last ne (bd_gN seed kk zz) 0), .int (bd_last mk (bd_gM seed kk zz) 0)])), (aS, .inl (K.1, 62, .inl (bd_fil (bd_gS seed kk zz) 0 fS))), (aA, .inl (K.1, 62, .inl (bd_fil (bd_gA seed kk zz) 0 fA))), (aB, .inl (K.1, 62, .inl (bd_fil (bd_gB seed kk zz) 0 fB))), (aN, .inl (K.1, 62, .inl (bd_fil (bd_gN seed kk zz) 0 fN))), (aM, .inl (K.1, 62, .inl (bd_fil (bd_gM seed kk zz) 0 fM))), (aL, .inl (K.2.1, 62, .inl fL))] := by simp only [bd_fil0, bd_m1]; exact hD
    refine cx_loop (pc := 33) (st := []) (fun (i : Nat) H locs ls => (i ≤ zz + 2) ∧ va_P D vwCl [(h0, .inr (1, [.long seed, .ref hM, .ref hO, .int (nI (zz + 2)), .ref aS, .ref aA, .ref aB, .ref aN, .ref aM, .ref aL, .int vb, .int vs, .ref aT, .int tl])), (hM, .inr (0, [.long (bd_gW seed kk zz i), .int (bd_sk kk), .int (bd_pb seed (nI kk) (nI zz)), .int (nI i - 1), .int (bd_last so (bd_gS seed kk zz) i), .int (bd_last fa (bd_gA seed kk zz) i), .int (bd_last fb (bd_gB seed kk zz) i), .int (bd_last ne (bd_gN seed kk zz) i), .int (bd_last mk (bd_gM seed kk zz) i)])), (aS, .inl (K.1, 62, .inl (bd_fil (bd_gS seed kk zz) i fS))), (aA, .inl (K.1, 62, .inl (bd_fil (bd_gA seed kk zz) i fA))), (aB, .inl (K.1, 62, .inl (bd_fil (bd_gB seed kk zz) i fB))), (aN, .inl (K.1, 62, .inl (bd_fil (bd_gN seed kk zz) i fN))), (aM, .inl (K.1, 62, .inl (bd_fil (bd_gM seed kk zz) i fM))), (aL, .inl (K.2.1, 62, .inl fL))] H ∧ va_D A [(h0, .inr (1, [.long seed, .ref hM, .ref hO, .int (nI (zz + 2)), .ref aS, .ref aA, .ref aB, .ref aN, .ref aM, .ref aL, .int vb, .int vs, .ref aT, .int tl])), (hM, .inr (0, [.long (bd_gW seed kk zz i), .int (bd_sk kk), .int (bd_pb seed (nI kk) (nI zz)), .int (nI i - 1), .int (bd_last so (bd_gS seed kk zz) i), .int (bd_last fa (bd_gA seed kk zz) i), .int (bd_last fb (bd_gB seed kk zz) i), .int (bd_last ne (bd_gN seed kk zz) i), .int (bd_last mk (bd_gM seed kk zz) i)])), (aS, .inl (K.1, 62, .inl (bd_fil (bd_gS seed kk zz) i fS))), (aA, .inl (K.1, 62, .inl (bd_fil (bd_gA seed kk zz) i fA))), (aB, .inl (K.1, 62, .inl (bd_fil (bd_gB seed kk zz) i fB))), (aN, .inl (K.1, 62, .inl (bd_fil (bd_gN seed kk zz) i fN))), (aM, .inl (K.1, 62, .inl (bd_fil (bd_gM seed kk zz) i fM))), (aL, .inl (K.2.1, 62, .inl fL))] ∧ va_S A s.heap H locs ∧ lv_has ls 4 [(3, .int (nI i)), (0, .ref h0)]) (fun (i : Nat) => zz + 2 - i) (fun z H locs ls hI ih => ?_) 0 ⟨Nat.zero_le _, hP, hD, hS, lv_sub hl [0, 1] rfl⟩
    obtain ⟨i, rfl⟩ : ∃ y, y = z := ⟨_, rfl⟩
    obtain ⟨hi, hP, hD, hS, hl⟩ := hI
    have hP : va_P D vwCl [(h0, .inr (1, [.long seed, .ref hM, .ref hO, .int (nI (zz + 2)), .ref aS, .ref aA, .ref aB, .ref aN, .ref aM, .ref aL, .int vb, .int vs, .ref aT, .int tl])), (hM, .inr (0, [.long (bd_gW seed kk zz i), .int (bd_sk kk), .int (bd_pb seed (nI kk) (nI zz)), .int (nI i - 1), .int (bd_last so (bd_gS seed kk zz) i), .int (bd_last fa (bd_gA seed kk zz) i), .int (bd_last fb (bd_gB seed kk zz) i), .int (bd_last ne (bd_gN seed kk zz) i), .int (bd_last mk (bd_gM seed kk zz) i)])), (aS, .inl (K.1, 62, .inl (bd_fil (bd_gS seed kk zz) i fS))), (aA, .inl (K.1, 62, .inl (bd_fil (bd_gA seed kk zz) i fA))), (aB, .inl (K.1, 62, .inl (bd_fil (bd_gB seed kk zz) i fB))), (aN, .inl (K.1, 62, .inl (bd_fil (bd_gN seed kk zz) i fN))), (aM, .inl (K.1, 62, .inl (bd_fil (bd_gM seed kk zz) i fM))), (aL, .inl (K.2.1, 62, .inl fL))] H := hP
    have hD : va_D A [(h0, .inr (1, [.long seed, .ref hM, .ref hO, .int (nI (zz + 2)), .ref aS, .ref aA, .ref aB, .ref aN, .ref aM, .ref aL, .int vb, .int vs, .ref aT, .int tl])), (hM, .inr (0, [.long (bd_gW seed kk zz i), .int (bd_sk kk), .int (bd_pb seed (nI kk) (nI zz)), .int (nI i - 1), .int (bd_last so (bd_gS seed kk zz) i), .int (bd_last fa (bd_gA seed kk zz) i), .int (bd_last fb (bd_gB seed kk zz) i), .int (bd_last ne (bd_gN seed kk zz) i), .int (bd_last mk (bd_gM seed kk zz) i)])), (aS, .inl (K.1, 62, .inl (bd_fil (bd_gS seed kk zz) i fS))), (aA, .inl (K.1, 62, .inl (bd_fil (bd_gA seed kk zz) i fA))), (aB, .inl (K.1, 62, .inl (bd_fil (bd_gB seed kk zz) i fB))), (aN, .inl (K.1, 62, .inl (bd_fil (bd_gN seed kk zz) i fN))), (aM, .inl (K.1, 62, .inl (bd_fil (bd_gM seed kk zz) i fM))), (aL, .inl (K.2.1, 62, .inl fL))] := hD
    have hl : lv_has ls 4 [(3, .int (nI i)), (0, .ref h0)] := hl
    refine lv_iload_n hx hb d_B_draw_33 rfl (lv_at hl 0 rfl) ?_
    refine lv_aload_n hx hb d_B_draw_34 rfl (lv_at hl 1 rfl) ?_
    refine va_get (D := D) (ci := 1) (v := .int (nI (zz + 2))) (C := "BuildDrawer") (T := TB) (N := 14) hx hb hw inB hown hK hP 0 rfl rfl 3 (by decide) (hw _ k_59) (fun _ h9 => h9) rfl d_B_draw_35 ?_
    refine lv_icmp_ge (tgt := 125) hx hb d_B_draw_38 (by decide) (fun r_38 => ?_) (fun r_38 => ?_)
    · have c_38 := (nI_leI (a := (zz + 2)) (b := i) (by omega) (by omega)).mp r_38
      refine lv_aload_n hx hb d_B_draw_125 rfl (lv_at hl 1 rfl) ?_
      refine cx_cv (wr := [(hM, .inr (0, [.long (bd_gW seed kk zz i), .int (bd_sk kk), .int (bd_pb seed (nI kk) (nI zz)), .int (nI i - 1), .int (bd_last so (bd_gS seed kk zz) i), .int (bd_last fa (bd_gA seed kk zz) i), .int (bd_last fb (bd_gB seed kk zz) i), .int (bd_last ne (bd_gN seed kk zz) i), .int (bd_last mk (bd_gM seed kk zz) i)])), (aS, .inl (K.1, 62, .inl (bd_fil (bd_gS seed kk zz) i fS))), (aA, .inl (K.1, 62, .inl (bd_fil (bd_gA seed kk zz) i fA))), (aB, .inl (K.1, 62, .inl (bd_fil (bd_gB seed kk zz) i fB))), (aN, .inl (K.1, 62, .inl (bd_fil (bd_gN seed kk zz) i fN))), (aM, .inl (K.1, 62, .inl (bd_fil (bd_gM seed kk zz) i fM)))]) (wN := [(h0, .inr (1, [.long seed, .ref hM, .ref hO, .int (nI (zz + 2)), .ref aS, .ref aA, .ref aB, .ref aN, .ref aM, .ref aL, .int vb, .int vs, .ref aT, .int (-1)])), (hM, .inr (0, [.long (bd_gW seed kk zz i), .int (bd_sk kk), .int (bd_pb seed (nI kk) (nI zz)), .int (nI i - 1), .int (bd_last so (bd_gS seed kk zz) i), .int (bd_last fa (bd_gA seed kk zz) i), .int (bd_last fb (bd_gB seed kk zz) i), .int (bd_last ne (bd_gN seed kk zz) i), .int (bd_last mk (bd_gM seed kk zz) i)])), (aS, .inl (K.1, 62, .inl (bd_fil (bd_gS seed kk zz) i fS))), (aA, .inl (K.1, 62, .inl (bd_fil (bd_gA seed kk zz) i fA))), (aB, .inl (K.1, 62, .inl (bd_fil (bd_gB seed kk zz) i fB))), (aN, .inl (K.1, 62, .inl (bd_fil (bd_gN seed kk zz) i fN))), (aM, .inl (K.1, 62, .inl (bd_fil (bd_gM seed kk zz) i fM))), (aL, .inl (K.2.1, 62, .inl (bd_all (zz + 2) fL)))]) (va_runV (As := []) (rest := []) ⟨hx, hb, hml, hown, hw⟩ (c_B_takeAllBack l G D K H.size h0 seed hM hO (zz + 2) aS aA aB aN aM aL vb vs aT tl fL (by omega)) (cwV 0 hw (cx_gV k_145 k_147 ks_B_takeAllBack k_1 k_148) rfl rfl rfl (by decide +kernel) ⟨Nat.le_of_ble_eq_true rfl, Nat.le_of_ble_eq_true rfl⟩) (cx_preV (q0 := 0) (ci := 1) hK hP hD hS hA hE rfl rfl [0, 7] rfl rfl (by decide)) rfl rfl hl.1 rfl (lv_room (Nat.le_of_ble_eq_true rfl)) d_B_draw_126 ⟨Nat.le_of_ble_eq_true rfl, Nat.le_of_ble_eq_true rfl⟩) hP hD hS hA [0, 7] [1, 2, 3, 4, 5, 6] rfl rfl (by decide) (by decide) [6, 0, 1, 2, 3, 4, 5, 7] rfl rfl (by decide) (fun H locs hP hD hS => ?_)
      refine lv_aload_n hx hb d_B_draw_129 rfl (lv_at hl 1 rfl) ?_
      refine va_get (D := D) (ci := 1) (v := .int (nI (zz + 2))) (C := "BuildDrawer") (T := TB) (N := 14) hx hb hw inB hown hK hP 0 rfl rfl 3 (by decide) (hw _ k_59) (fun _ h9 => h9) rfl d_B_draw_130 ?_
      exact cx_iret hx hb hr hlocks hK hP hD hS d_B_draw_133 (rfl) (by rw [show i = zz + 2 by omega])
    · have c_38 := mt (nI_leI (a := (zz + 2)) (b := i) (by omega) (by omega)).mpr r_38
      refine lv_iload_n hx hb d_B_draw_41 rfl (lv_at hl 0 rfl) ?_
      refine lv_bipush (v := 62) hx hb d_B_draw_42 (by decide) ?_
      refine lv_icmp_ge (tgt := 125) hx hb d_B_draw_44 (by decide) (fun r_44 => ?_) (fun r_44 => ?_)
      · have c_44 := (nI_leI (a := 62) (b := i) (by omega) (by omega)).mp r_44
        omega
      · have c_44 := mt (nI_leI (a := 62) (b := i) (by omega) (by omega)).mpr r_44
        refine lv_aload_n hx hb d_B_draw_47 rfl (lv_at hl 1 rfl) ?_
        refine va_get (D := D) (ci := 1) (v := .ref hM) (C := "BuildDrawer") (T := TB) (N := 14) hx hb hw inB hown hK hP 0 rfl rfl 1 (by decide) (hw _ k_57) (fun _ h9 => h9) rfl d_B_draw_48 ?_
        refine cx_cv (wr := [(h0, .inr (1, [.long seed, .ref hM, .ref hO, .int (nI (zz + 2)), .ref aS, .ref aA, .ref aB, .ref aN, .ref aM, .ref aL, .int vb, .int vs, .ref aT, .int tl])), (aS, .inl (K.1, 62, .inl (bd_fil (bd_gS seed kk zz) i fS))), (aA, .inl (K.1, 62, .inl (bd_fil (bd_gA seed kk zz) i fA))), (aB, .inl (K.1, 62, .inl (bd_fil (bd_gB seed kk zz) i fB))), (aN, .inl (K.1, 62, .inl (bd_fil (bd_gN seed kk zz) i fN))), (aM, .inl (K.1, 62, .inl (bd_fil (bd_gM seed kk zz) i fM))), (aL, .inl (K.2.1, 62, .inl fL))]) (wN := [(h0, .inr (1, [.long seed, .ref hM, .ref hO, .int (nI (zz + 2)), .ref aS, .ref aA, .ref aB, .ref aN, .ref aM, .ref aL, .int vb, .int vs, .ref aT, .int tl])), (hM, .inr (0, [.long (bd_nW (bd_sk kk) (nI i - 1 + 1) (bd_gW seed kk zz i)), .int (bd_sk kk), .int (bd_pb seed (nI kk) (nI zz)), .int (nI i - 1 + 1), .int (bd_nS (bd_sk kk) (nI i - 1 + 1) (bd_gW seed kk zz i)), .int (bd_nA (nI i - 1 + 1) (bd_gW seed kk zz i)), .int (bd_nB (bd_sk kk) (bd_pb seed (nI kk) (nI zz)) (nI i - 1 + 1) (bd_gW seed kk zz i)), .int (bd_nN (bd_sk kk) (nI i - 1 + 1) (bd_gW seed kk zz i)), .int (bd_nM (bd_sk kk) (nI i - 1 + 1) (bd_gW seed kk zz i))])), (aS, .inl (K.1, 62, .inl (bd_fil (bd_gS seed kk zz) i fS))), (aA, .inl (K.1, 62, .inl (bd_fil (bd_gA seed kk zz) i fA))), (aB, .inl (K.1, 62, .inl (bd_fil (bd_gB seed kk zz) i fB))), (aN, .inl (K.1, 62, .inl (bd_fil (bd_gN seed kk zz) i fN))), (aM, .inl (K.1, 62, .inl (bd_fil (bd_gM seed kk zz) i fM))), (aL, .inl (K.2.1, 62, .inl fL))]) (va_runVN (As := []) (rest := []) ⟨hx, hb, hml, hown, hw⟩ (c_D_next l G D K H.size hM (bd_gW seed kk zz i) (bd_sk kk) (bd_pb seed (nI kk) (nI zz)) (nI i - 1) (bd_last so (bd_gS seed kk zz) i) (bd_last fa (bd_gA seed kk zz) i) (bd_last fb (bd_gB seed kk zz) i) (bd_last ne (bd_gN seed kk zz) i) (bd_last mk (bd_gM seed kk zz) i)) ⟨va_cnB 0 hw (cx_gI k_128) rfl rfl rfl (hE.1 _ kn_125) (hw _ k_2) (by decide +kernel) ⟨Nat.le_of_ble_eq_true rfl, Nat.le_of_ble_eq_true rfl⟩, hw _ k_127, hw _ ks_D_next⟩ (cx_preV (q0 := 1) (ci := 0) hK hP hD hS hA hE rfl rfl [1] rfl rfl (by decide)) rfl rfl hl.1 rfl (lv_room (Nat.le_of_ble_eq_true rfl)) d_B_draw_51 ⟨Nat.le_of_ble_eq_true rfl, Nat.le_of_ble_eq_true rfl⟩) hP hD hS hA [1] [0, 2, 3, 4, 5, 6, 7] rfl rfl (by decide) (by decide) [0, 7, 1, 2, 3, 4, 5, 6] rfl rfl (by decide) (fun H locs hP hD hS => ?_)
        rw [bd_pm1] at hP hD
        have hP : va_P D vwCl [(h0, .inr (1, [.long seed, .ref hM, .ref hO, .int (nI (zz + 2)), .ref aS, .ref aA, .ref aB, .ref aN, .ref aM, .ref aL, .int vb, .int vs, .ref aT, .int tl])), (hM, .inr (0, [.long (bd_nW (bd_sk kk) (nI i) (bd_gW seed kk zz i)), .int (bd_sk kk), .int (bd_pb seed (nI kk) (nI zz)), .int (nI i), .int (bd_nS (bd_sk kk) (nI i) (bd_gW seed kk zz i)), .int (bd_nA (nI i) (bd_gW seed kk zz i)), .int (bd_nB (bd_sk kk) (bd_pb seed (nI kk) (nI zz)) (nI i) (bd_gW seed kk zz i)), .int (bd_nN (bd_sk kk) (nI i) (bd_gW seed kk zz i)), .int (bd_nM (bd_sk kk) (nI i) (bd_gW seed kk zz i))])), (aS, .inl (K.1, 62, .inl (bd_fil (bd_gS seed kk zz) i fS))), (aA, .inl (K.1, 62, .inl (bd_fil (bd_gA seed kk zz) i fA))), (aB, .inl (K.1, 62, .inl (bd_fil (bd_gB seed kk zz) i fB))), (aN, .inl (K.1, 62, .inl (bd_fil (bd_gN seed kk zz) i fN))), (aM, .inl (K.1, 62, .inl (bd_fil (bd_gM seed kk zz) i fM))), (aL, .inl (K.2.1, 62, .inl fL))] H := hP
        have hD : va_D A [(h0, .inr (1, [.long seed, .ref hM, .ref hO, .int (nI (zz + 2)), .ref aS, .ref aA, .ref aB, .ref aN, .ref aM, .ref aL, .int vb, .int vs, .ref aT, .int tl])), (hM, .inr (0, [.long (bd_nW (bd_sk kk) (nI i) (bd_gW seed kk zz i)), .int (bd_sk kk), .int (bd_pb seed (nI kk) (nI zz)), .int (nI i), .int (bd_nS (bd_sk kk) (nI i) (bd_gW seed kk zz i)), .int (bd_nA (nI i) (bd_gW seed kk zz i)), .int (bd_nB (bd_sk kk) (bd_pb seed (nI kk) (nI zz)) (nI i) (bd_gW seed kk zz i)), .int (bd_nN (bd_sk kk) (nI i) (bd_gW seed kk zz i)), .int (bd_nM (bd_sk kk) (nI i) (bd_gW seed kk zz i))])), (aS, .inl (K.1, 62, .inl (bd_fil (bd_gS seed kk zz) i fS))), (aA, .inl (K.1, 62, .inl (bd_fil (bd_gA seed kk zz) i fA))), (aB, .inl (K.1, 62, .inl (bd_fil (bd_gB seed kk zz) i fB))), (aN, .inl (K.1, 62, .inl (bd_fil (bd_gN seed kk zz) i fN))), (aM, .inl (K.1, 62, .inl (bd_fil (bd_gM seed kk zz) i fM))), (aL, .inl (K.2.1, 62, .inl fL))] := hD
        refine lv_aload_n hx hb d_B_draw_54 rfl (lv_at hl 1 rfl) ?_
        refine va_get (D := D) (ci := 1) (v := .ref aS) (C := "BuildDrawer") (T := TB) (N := 14) hx hb hw inB hown hK hP 0 rfl rfl 4 (by decide) (hw _ k_60) (fun _ h9 => h9) rfl d_B_draw_55 ?_
        refine lv_iload_n hx hb d_B_draw_58 rfl (lv_at hl 0 rfl) ?_
        refine lv_aload_n hx hb d_B_draw_59 rfl (lv_at hl 1 rfl) ?_
        refine va_get (D := D) (ci := 1) (v := .ref hM) (C := "BuildDrawer") (T := TB) (N := 14) hx hb hw inB hown hK hP 0 rfl rfl 1 (by decide) (hw _ k_57) (fun _ h9 => h9) rfl d_B_draw_60 ?_
        refine va_getN (D := D) (ci := 0) (v := .int (bd_nS (bd_sk kk) (nI i) (bd_gW seed kk zz i))) (C := "BuildDrawer$Drawing") (T := TD) (N := 9) hx hb hw inD hown hK hP 1 rfl rfl 4 (by decide) (hE.nw kn_28) (fun _ h9 => h9) rfl d_B_draw_63 ?_
        refine va_iast hx hb hK hP hD hS 2 0 rfl rfl (vp_in_nI (n := i) (by omega) (by omega)) d_B_draw_66 (fun H locs hP hD hS => ?_)
        have e_66 : upd (bd_fil (bd_gS seed kk zz) i fS) (nI i).toNatClampNeg (bd_nS (bd_sk kk) (nI i) (bd_gW seed kk zz i)) = bd_fil (bd_gS seed kk zz) (i + 1) fS := by rw [nI_clamp (by omega)]; exact bd_filS _ _ _ rfl
        have hP : va_P D vwCl [(h0, .inr (1, [.long seed, .ref hM, .ref hO, .int (nI (zz + 2)), .ref aS, .ref aA, .ref aB, .ref aN, .ref aM, .ref aL, .int vb, .int vs, .ref aT, .int tl])), (hM, .inr (0, [.long (bd_nW (bd_sk kk) (nI i) (bd_gW seed kk zz i)), .int (bd_sk kk), .int (bd_pb seed (nI kk) (nI zz)), .int (nI i), .int (bd_nS (bd_sk kk) (nI i) (bd_gW seed kk zz i)), .int (bd_nA (nI i) (bd_gW seed kk zz i)), .int (bd_nB (bd_sk kk) (bd_pb seed (nI kk) (nI zz)) (nI i) (bd_gW seed kk zz i)), .int (bd_nN (bd_sk kk) (nI i) (bd_gW seed kk zz i)), .int (bd_nM (bd_sk kk) (nI i) (bd_gW seed kk zz i))])), (aS, .inl (K.1, 62, .inl (upd (bd_fil (bd_gS seed kk zz) i fS) (nI i).toNatClampNeg (bd_nS (bd_sk kk) (nI i) (bd_gW seed kk zz i))))), (aA, .inl (K.1, 62, .inl (bd_fil (bd_gA seed kk zz) i fA))), (aB, .inl (K.1, 62, .inl (bd_fil (bd_gB seed kk zz) i fB))), (aN, .inl (K.1, 62, .inl (bd_fil (bd_gN seed kk zz) i fN))), (aM, .inl (K.1, 62, .inl (bd_fil (bd_gM seed kk zz) i fM))), (aL, .inl (K.2.1, 62, .inl fL))] H := hP
        have hD : va_D A [(h0, .inr (1, [.long seed, .ref hM, .ref hO, .int (nI (zz + 2)), .ref aS, .ref aA, .ref aB, .ref aN, .ref aM, .ref aL, .int vb, .int vs, .ref aT, .int tl])), (hM, .inr (0, [.long (bd_nW (bd_sk kk) (nI i) (bd_gW seed kk zz i)), .int (bd_sk kk), .int (bd_pb seed (nI kk) (nI zz)), .int (nI i), .int (bd_nS (bd_sk kk) (nI i) (bd_gW seed kk zz i)), .int (bd_nA (nI i) (bd_gW seed kk zz i)), .int (bd_nB (bd_sk kk) (bd_pb seed (nI kk) (nI zz)) (nI i) (bd_gW seed kk zz i)), .int (bd_nN (bd_sk kk) (nI i) (bd_gW seed kk zz i)), .int (bd_nM (bd_sk kk) (nI i) (bd_gW seed kk zz i))])), (aS, .inl (K.1, 62, .inl (upd (bd_fil (bd_gS seed kk zz) i fS) (nI i).toNatClampNeg (bd_nS (bd_sk kk) (nI i) (bd_gW seed kk zz i))))), (aA, .inl (K.1, 62, .inl (bd_fil (bd_gA seed kk zz) i fA))), (aB, .inl (K.1, 62, .inl (bd_fil (bd_gB seed kk zz) i fB))), (aN, .inl (K.1, 62, .inl (bd_fil (bd_gN seed kk zz) i fN))), (aM, .inl (K.1, 62, .inl (bd_fil (bd_gM seed kk zz) i fM))), (aL, .inl (K.2.1, 62, .inl fL))] := hD
        rw [e_66] at hP hD
        have hP : va_P D vwCl [(h0, .inr (1, [.long seed, .ref hM, .ref hO, .int (nI (zz + 2)), .ref aS, .ref aA, .ref aB, .ref aN, .ref aM, .ref aL, .int vb, .int vs, .ref aT, .int tl])), (hM, .inr (0, [.long (bd_nW (bd_sk kk) (nI i) (bd_gW seed kk zz i)), .int (bd_sk kk), .int (bd_pb seed (nI kk) (nI zz)), .int (nI i), .int (bd_nS (bd_sk kk) (nI i) (bd_gW seed kk zz i)), .int (bd_nA (nI i) (bd_gW seed kk zz i)), .int (bd_nB (bd_sk kk) (bd_pb seed (nI kk) (nI zz)) (nI i) (bd_gW seed kk zz i)), .int (bd_nN (bd_sk kk) (nI i) (bd_gW seed kk zz i)), .int (bd_nM (bd_sk kk) (nI i) (bd_gW seed kk zz i))])), (aS, .inl (K.1, 62, .inl (bd_fil (bd_gS seed kk zz) (i + 1) fS))), (aA, .inl (K.1, 62, .inl (bd_fil (bd_gA seed kk zz) i fA))), (aB, .inl (K.1, 62, .inl (bd_fil (bd_gB seed kk zz) i fB))), (aN, .inl (K.1, 62, .inl (bd_fil (bd_gN seed kk zz) i fN))), (aM, .inl (K.1, 62, .inl (bd_fil (bd_gM seed kk zz) i fM))), (aL, .inl (K.2.1, 62, .inl fL))] H := hP
        have hD : va_D A [(h0, .inr (1, [.long seed, .ref hM, .ref hO, .int (nI (zz + 2)), .ref aS, .ref aA, .ref aB, .ref aN, .ref aM, .ref aL, .int vb, .int vs, .ref aT, .int tl])), (hM, .inr (0, [.long (bd_nW (bd_sk kk) (nI i) (bd_gW seed kk zz i)), .int (bd_sk kk), .int (bd_pb seed (nI kk) (nI zz)), .int (nI i), .int (bd_nS (bd_sk kk) (nI i) (bd_gW seed kk zz i)), .int (bd_nA (nI i) (bd_gW seed kk zz i)), .int (bd_nB (bd_sk kk) (bd_pb seed (nI kk) (nI zz)) (nI i) (bd_gW seed kk zz i)), .int (bd_nN (bd_sk kk) (nI i) (bd_gW seed kk zz i)), .int (bd_nM (bd_sk kk) (nI i) (bd_gW seed kk zz i))])), (aS, .inl (K.1, 62, .inl (bd_fil (bd_gS seed kk zz) (i + 1) fS))), (aA, .inl (K.1, 62, .inl (bd_fil (bd_gA seed kk zz) i fA))), (aB, .inl (K.1, 62, .inl (bd_fil (bd_gB seed kk zz) i fB))), (aN, .inl (K.1, 62, .inl (bd_fil (bd_gN seed kk zz) i fN))), (aM, .inl (K.1, 62, .inl (bd_fil (bd_gM seed kk zz) i fM))), (aL, .inl (K.2.1, 62, .inl fL))] := hD
        refine lv_aload_n hx hb d_B_draw_67 rfl (lv_at hl 1 rfl) ?_
        refine va_get (D := D) (ci := 1) (v := .ref aA) (C := "BuildDrawer") (T := TB) (N := 14) hx hb hw inB hown hK hP 0 rfl rfl 5 (by decide) (hw _ k_61) (fun _ h9 => h9) rfl d_B_draw_68 ?_
        refine lv_iload_n hx hb d_B_draw_71 rfl (lv_at hl 0 rfl) ?_
        refine lv_aload_n hx hb d_B_draw_72 rfl (lv_at hl 1 rfl) ?_
        refine va_get (D := D) (ci := 1) (v := .ref hM) (C := "BuildDrawer") (T := TB) (N := 14) hx hb hw inB hown hK hP 0 rfl rfl 1 (by decide) (hw _ k_57) (fun _ h9 => h9) rfl d_B_draw_73 ?_
        refine va_getN (D := D) (ci := 0) (v := .int (bd_nA (nI i) (bd_gW seed kk zz i))) (C := "BuildDrawer$Drawing") (T := TD) (N := 9) hx hb hw inD hown hK hP 1 rfl rfl 5 (by decide) (hE.nw kn_30) (fun _ h9 => h9) rfl d_B_draw_76 ?_
        refine va_iast hx hb hK hP hD hS 3 0 rfl rfl (vp_in_nI (n := i) (by omega) (by omega)) d_B_draw_79 (fun H locs hP hD hS => ?_)
        have e_79 : upd (bd_fil (bd_gA seed kk zz) i fA) (nI i).toNatClampNeg (bd_nA (nI i) (bd_gW seed kk zz i)) = bd_fil (bd_gA seed kk zz) (i + 1) fA := by rw [nI_clamp (by omega)]; exact bd_filS _ _ _ rfl
        have hP : va_P D vwCl [(h0, .inr (1, [.long seed, .ref hM, .ref hO, .int (nI (zz + 2)), .ref aS, .ref aA, .ref aB, .ref aN, .ref aM, .ref aL, .int vb, .int vs, .ref aT, .int tl])), (hM, .inr (0, [.long (bd_nW (bd_sk kk) (nI i) (bd_gW seed kk zz i)), .int (bd_sk kk), .int (bd_pb seed (nI kk) (nI zz)), .int (nI i), .int (bd_nS (bd_sk kk) (nI i) (bd_gW seed kk zz i)), .int (bd_nA (nI i) (bd_gW seed kk zz i)), .int (bd_nB (bd_sk kk) (bd_pb seed (nI kk) (nI zz)) (nI i) (bd_gW seed kk zz i)), .int (bd_nN (bd_sk kk) (nI i) (bd_gW seed kk zz i)), .int (bd_nM (bd_sk kk) (nI i) (bd_gW seed kk zz i))])), (aS, .inl (K.1, 62, .inl (bd_fil (bd_gS seed kk zz) (i + 1) fS))), (aA, .inl (K.1, 62, .inl (upd (bd_fil (bd_gA seed kk zz) i fA) (nI i).toNatClampNeg (bd_nA (nI i) (bd_gW seed kk zz i))))), (aB, .inl (K.1, 62, .inl (bd_fil (bd_gB seed kk zz) i fB))), (aN, .inl (K.1, 62, .inl (bd_fil (bd_gN seed kk zz) i fN))), (aM, .inl (K.1, 62, .inl (bd_fil (bd_gM seed kk zz) i fM))), (aL, .inl (K.2.1, 62, .inl fL))] H := hP
        have hD : va_D A [(h0, .inr (1, [.long seed, .ref hM, .ref hO, .int (nI (zz + 2)), .ref aS, .ref aA, .ref aB, .ref aN, .ref aM, .ref aL, .int vb, .int vs, .ref aT, .int tl])), (hM, .inr (0, [.long (bd_nW (bd_sk kk) (nI i) (bd_gW seed kk zz i)), .int (bd_sk kk), .int (bd_pb seed (nI kk) (nI zz)), .int (nI i), .int (bd_nS (bd_sk kk) (nI i) (bd_gW seed kk zz i)), .int (bd_nA (nI i) (bd_gW seed kk zz i)), .int (bd_nB (bd_sk kk) (bd_pb seed (nI kk) (nI zz)) (nI i) (bd_gW seed kk zz i)), .int (bd_nN (bd_sk kk) (nI i) (bd_gW seed kk zz i)), .int (bd_nM (bd_sk kk) (nI i) (bd_gW seed kk zz i))])), (aS, .inl (K.1, 62, .inl (bd_fil (bd_gS seed kk zz) (i + 1) fS))), (aA, .inl (K.1, 62, .inl (upd (bd_fil (bd_gA seed kk zz) i fA) (nI i).toNatClampNeg (bd_nA (nI i) (bd_gW seed kk zz i))))), (aB, .inl (K.1, 62, .inl (bd_fil (bd_gB seed kk zz) i fB))), (aN, .inl (K.1, 62, .inl (bd_fil (bd_gN seed kk zz) i fN))), (aM, .inl (K.1, 62, .inl (bd_fil (bd_gM seed kk zz) i fM))), (aL, .inl (K.2.1, 62, .inl fL))] := hD
        rw [e_79] at hP hD
        have hP : va_P D vwCl [(h0, .inr (1, [.long seed, .ref hM, .ref hO, .int (nI (zz + 2)), .ref aS, .ref aA, .ref aB, .ref aN, .ref aM, .ref aL, .int vb, .int vs, .ref aT, .int tl])), (hM, .inr (0, [.long (bd_nW (bd_sk kk) (nI i) (bd_gW seed kk zz i)), .int (bd_sk kk), .int (bd_pb seed (nI kk) (nI zz)), .int (nI i), .int (bd_nS (bd_sk kk) (nI i) (bd_gW seed kk zz i)), .int (bd_nA (nI i) (bd_gW seed kk zz i)), .int (bd_nB (bd_sk kk) (bd_pb seed (nI kk) (nI zz)) (nI i) (bd_gW seed kk zz i)), .int (bd_nN (bd_sk kk) (nI i) (bd_gW seed kk zz i)), .int (bd_nM (bd_sk kk) (nI i) (bd_gW seed kk zz i))])), (aS, .inl (K.1, 62, .inl (bd_fil (bd_gS seed kk zz) (i + 1) fS))), (aA, .inl (K.1, 62, .inl (bd_fil (bd_gA seed kk zz) (i + 1) fA))), (aB, .inl (K.1, 62, .inl (bd_fil (bd_gB seed kk zz) i fB))), (aN, .inl (K.1, 62, .inl (bd_fil (bd_gN seed kk zz) i fN))), (aM, .inl (K.1, 62, .inl (bd_fil (bd_gM seed kk zz) i fM))), (aL, .inl (K.2.1, 62, .inl fL))] H := hP
        have hD : va_D A [(h0, .inr (1, [.long seed, .ref hM, .ref hO, .int (nI (zz + 2)), .ref aS, .ref aA, .ref aB, .ref aN, .ref aM, .ref aL, .int vb, .int vs, .ref aT, .int tl])), (hM, .inr (0, [.long (bd_nW (bd_sk kk) (nI i) (bd_gW seed kk zz i)), .int (bd_sk kk), .int (bd_pb seed (nI kk) (nI zz)), .int (nI i), .int (bd_nS (bd_sk kk) (nI i) (bd_gW seed kk zz i)), .int (bd_nA (nI i) (bd_gW seed kk zz i)), .int (bd_nB (bd_sk kk) (bd_pb seed (nI kk) (nI zz)) (nI i) (bd_gW seed kk zz i)), .int (bd_nN (bd_sk kk) (nI i) (bd_gW seed kk zz i)), .int (bd_nM (bd_sk kk) (nI i) (bd_gW seed kk zz i))])), (aS, .inl (K.1, 62, .inl (bd_fil (bd_gS seed kk zz) (i + 1) fS))), (aA, .inl (K.1, 62, .inl (bd_fil (bd_gA seed kk zz) (i + 1) fA))), (aB, .inl (K.1, 62, .inl (bd_fil (bd_gB seed kk zz) i fB))), (aN, .inl (K.1, 62, .inl (bd_fil (bd_gN seed kk zz) i fN))), (aM, .inl (K.1, 62, .inl (bd_fil (bd_gM seed kk zz) i fM))), (aL, .inl (K.2.1, 62, .inl fL))] := hD
        refine lv_aload_n hx hb d_B_draw_80 rfl (lv_at hl 1 rfl) ?_
        refine va_get (D := D) (ci := 1) (v := .ref aB) (C := "BuildDrawer") (T := TB) (N := 14) hx hb hw inB hown hK hP 0 rfl rfl 6 (by decide) (hw _ k_62) (fun _ h9 => h9) rfl d_B_draw_81 ?_
        refine lv_iload_n hx hb d_B_draw_84 rfl (lv_at hl 0 rfl) ?_
        refine lv_aload_n hx hb d_B_draw_85 rfl (lv_at hl 1 rfl) ?_
        refine va_get (D := D) (ci := 1) (v := .ref hM) (C := "BuildDrawer") (T := TB) (N := 14) hx hb hw inB hown hK hP 0 rfl rfl 1 (by decide) (hw _ k_57) (fun _ h9 => h9) rfl d_B_draw_86 ?_
        refine va_getN (D := D) (ci := 0) (v := .int (bd_nB (bd_sk kk) (bd_pb seed (nI kk) (nI zz)) (nI i) (bd_gW seed kk zz i))) (C := "BuildDrawer$Drawing") (T := TD) (N := 9) hx hb hw inD hown hK hP 1 rfl rfl 6 (by decide) (hE.nw kn_32) (fun _ h9 => h9) rfl d_B_draw_89 ?_
        refine va_iast hx hb hK hP hD hS 4 0 rfl rfl (vp_in_nI (n := i) (by omega) (by omega)) d_B_draw_92 (fun H locs hP hD hS => ?_)
        have e_92 : upd (bd_fil (bd_gB seed kk zz) i fB) (nI i).toNatClampNeg (bd_nB (bd_sk kk) (bd_pb seed (nI kk) (nI zz)) (nI i) (bd_gW seed kk zz i)) = bd_fil (bd_gB seed kk zz) (i + 1) fB := by rw [nI_clamp (by omega)]; exact bd_filS _ _ _ rfl
        have hP : va_P D vwCl [(h0, .inr (1, [.long seed, .ref hM, .ref hO, .int (nI (zz + 2)), .ref aS, .ref aA, .ref aB, .ref aN, .ref aM, .ref aL, .int vb, .int vs, .ref aT, .int tl])), (hM, .inr (0, [.long (bd_nW (bd_sk kk) (nI i) (bd_gW seed kk zz i)), .int (bd_sk kk), .int (bd_pb seed (nI kk) (nI zz)), .int (nI i), .int (bd_nS (bd_sk kk) (nI i) (bd_gW seed kk zz i)), .int (bd_nA (nI i) (bd_gW seed kk zz i)), .int (bd_nB (bd_sk kk) (bd_pb seed (nI kk) (nI zz)) (nI i) (bd_gW seed kk zz i)), .int (bd_nN (bd_sk kk) (nI i) (bd_gW seed kk zz i)), .int (bd_nM (bd_sk kk) (nI i) (bd_gW seed kk zz i))])), (aS, .inl (K.1, 62, .inl (bd_fil (bd_gS seed kk zz) (i + 1) fS))), (aA, .inl (K.1, 62, .inl (bd_fil (bd_gA seed kk zz) (i + 1) fA))), (aB, .inl (K.1, 62, .inl (upd (bd_fil (bd_gB seed kk zz) i fB) (nI i).toNatClampNeg (bd_nB (bd_sk kk) (bd_pb seed (nI kk) (nI zz)) (nI i) (bd_gW seed kk zz i))))), (aN, .inl (K.1, 62, .inl (bd_fil (bd_gN seed kk zz) i fN))), (aM, .inl (K.1, 62, .inl (bd_fil (bd_gM seed kk zz) i fM))), (aL, .inl (K.2.1, 62, .inl fL))] H := hP
        have hD : va_D A [(h0, .inr (1, [.long seed, .ref hM, .ref hO, .int (nI (zz + 2)), .ref aS, .ref aA, .ref aB, .ref aN, .ref aM, .ref aL, .int vb, .int vs, .ref aT, .int tl])), (hM, .inr (0, [.long (bd_nW (bd_sk kk) (nI i) (bd_gW seed kk zz i)), .int (bd_sk kk), .int (bd_pb seed (nI kk) (nI zz)), .int (nI i), .int (bd_nS (bd_sk kk) (nI i) (bd_gW seed kk zz i)), .int (bd_nA (nI i) (bd_gW seed kk zz i)), .int (bd_nB (bd_sk kk) (bd_pb seed (nI kk) (nI zz)) (nI i) (bd_gW seed kk zz i)), .int (bd_nN (bd_sk kk) (nI i) (bd_gW seed kk zz i)), .int (bd_nM (bd_sk kk) (nI i) (bd_gW seed kk zz i))])), (aS, .inl (K.1, 62, .inl (bd_fil (bd_gS seed kk zz) (i + 1) fS))), (aA, .inl (K.1, 62, .inl (bd_fil (bd_gA seed kk zz) (i + 1) fA))), (aB, .inl (K.1, 62, .inl (upd (bd_fil (bd_gB seed kk zz) i fB) (nI i).toNatClampNeg (bd_nB (bd_sk kk) (bd_pb seed (nI kk) (nI zz)) (nI i) (bd_gW seed kk zz i))))), (aN, .inl (K.1, 62, .inl (bd_fil (bd_gN seed kk zz) i fN))), (aM, .inl (K.1, 62, .inl (bd_fil (bd_gM seed kk zz) i fM))), (aL, .inl (K.2.1, 62, .inl fL))] := hD
        rw [e_92] at hP hD
        have hP : va_P D vwCl [(h0, .inr (1, [.long seed, .ref hM, .ref hO, .int (nI (zz + 2)), .ref aS, .ref aA, .ref aB, .ref aN, .ref aM, .ref aL, .int vb, .int vs, .ref aT, .int tl])), (hM, .inr (0, [.long (bd_nW (bd_sk kk) (nI i) (bd_gW seed kk zz i)), .int (bd_sk kk), .int (bd_pb seed (nI kk) (nI zz)), .int (nI i), .int (bd_nS (bd_sk kk) (nI i) (bd_gW seed kk zz i)), .int (bd_nA (nI i) (bd_gW seed kk zz i)), .int (bd_nB (bd_sk kk) (bd_pb seed (nI kk) (nI zz)) (nI i) (bd_gW seed kk zz i)), .int (bd_nN (bd_sk kk) (nI i) (bd_gW seed kk zz i)), .int (bd_nM (bd_sk kk) (nI i) (bd_gW seed kk zz i))])), (aS, .inl (K.1, 62, .inl (bd_fil (bd_gS seed kk zz) (i + 1) fS))), (aA, .inl (K.1, 62, .inl (bd_fil (bd_gA seed kk zz) (i + 1) fA))), (aB, .inl (K.1, 62, .inl (bd_fil (bd_gB seed kk zz) (i + 1) fB))), (aN, .inl (K.1, 62, .inl (bd_fil (bd_gN seed kk zz) i fN))), (aM, .inl (K.1, 62, .inl (bd_fil (bd_gM seed kk zz) i fM))), (aL, .inl (K.2.1, 62, .inl fL))] H := hP
        have hD : va_D A [(h0, .inr (1, [.long seed, .ref hM, .ref hO, .int (nI (zz + 2)), .ref aS, .ref aA, .ref aB, .ref aN, .ref aM, .ref aL, .int vb, .int vs, .ref aT, .int tl])), (hM, .inr (0, [.long (bd_nW (bd_sk kk) (nI i) (bd_gW seed kk zz i)), .int (bd_sk kk), .int (bd_pb seed (nI kk) (nI zz)), .int (nI i), .int (bd_nS (bd_sk kk) (nI i) (bd_gW seed kk zz i)), .int (bd_nA (nI i) (bd_gW seed kk zz i)), .int (bd_nB (bd_sk kk) (bd_pb seed (nI kk) (nI zz)) (nI i) (bd_gW seed kk zz i)), .int (bd_nN (bd_sk kk) (nI i) (bd_gW seed kk zz i)), .int (bd_nM (bd_sk kk) (nI i) (bd_gW seed kk zz i))])), (aS, .inl (K.1, 62, .inl (bd_fil (bd_gS seed kk zz) (i + 1) fS))), (aA, .inl (K.1, 62, .inl (bd_fil (bd_gA seed kk zz) (i + 1) fA))), (aB, .inl (K.1, 62, .inl (bd_fil (bd_gB seed kk zz) (i + 1) fB))), (aN, .inl (K.1, 62, .inl (bd_fil (bd_gN seed kk zz) i fN))), (aM, .inl (K.1, 62, .inl (bd_fil (bd_gM seed kk zz) i fM))), (aL, .inl (K.2.1, 62, .inl fL))] := hD
        refine lv_aload_n hx hb d_B_draw_93 rfl (lv_at hl 1 rfl) ?_
        refine va_get (D := D) (ci := 1) (v := .ref aN) (C := "BuildDrawer") (T := TB) (N := 14) hx hb hw inB hown hK hP 0 rfl rfl 7 (by decide) (hw _ k_63) (fun _ h9 => h9) rfl d_B_draw_94 ?_
        refine lv_iload_n hx hb d_B_draw_97 rfl (lv_at hl 0 rfl) ?_
        refine lv_aload_n hx hb d_B_draw_98 rfl (lv_at hl 1 rfl) ?_
        refine va_get (D := D) (ci := 1) (v := .ref hM) (C := "BuildDrawer") (T := TB) (N := 14) hx hb hw inB hown hK hP 0 rfl rfl 1 (by decide) (hw _ k_57) (fun _ h9 => h9) rfl d_B_draw_99 ?_
        refine va_getN (D := D) (ci := 0) (v := .int (bd_nN (bd_sk kk) (nI i) (bd_gW seed kk zz i))) (C := "BuildDrawer$Drawing") (T := TD) (N := 9) hx hb hw inD hown hK hP 1 rfl rfl 7 (by decide) (hE.nw kn_34) (fun _ h9 => h9) rfl d_B_draw_102 ?_
        refine va_iast hx hb hK hP hD hS 5 0 rfl rfl (vp_in_nI (n := i) (by omega) (by omega)) d_B_draw_105 (fun H locs hP hD hS => ?_)
        have e_105 : upd (bd_fil (bd_gN seed kk zz) i fN) (nI i).toNatClampNeg (bd_nN (bd_sk kk) (nI i) (bd_gW seed kk zz i)) = bd_fil (bd_gN seed kk zz) (i + 1) fN := by rw [nI_clamp (by omega)]; exact bd_filS _ _ _ rfl
        have hP : va_P D vwCl [(h0, .inr (1, [.long seed, .ref hM, .ref hO, .int (nI (zz + 2)), .ref aS, .ref aA, .ref aB, .ref aN, .ref aM, .ref aL, .int vb, .int vs, .ref aT, .int tl])), (hM, .inr (0, [.long (bd_nW (bd_sk kk) (nI i) (bd_gW seed kk zz i)), .int (bd_sk kk), .int (bd_pb seed (nI kk) (nI zz)), .int (nI i), .int (bd_nS (bd_sk kk) (nI i) (bd_gW seed kk zz i)), .int (bd_nA (nI i) (bd_gW seed kk zz i)), .int (bd_nB (bd_sk kk) (bd_pb seed (nI kk) (nI zz)) (nI i) (bd_gW seed kk zz i)), .int (bd_nN (bd_sk kk) (nI i) (bd_gW seed kk zz i)), .int (bd_nM (bd_sk kk) (nI i) (bd_gW seed kk zz i))])), (aS, .inl (K.1, 62, .inl (bd_fil (bd_gS seed kk zz) (i + 1) fS))), (aA, .inl (K.1, 62, .inl (bd_fil (bd_gA seed kk zz) (i + 1) fA))), (aB, .inl (K.1, 62, .inl (bd_fil (bd_gB seed kk zz) (i + 1) fB))), (aN, .inl (K.1, 62, .inl (upd (bd_fil (bd_gN seed kk zz) i fN) (nI i).toNatClampNeg (bd_nN (bd_sk kk) (nI i) (bd_gW seed kk zz i))))), (aM, .inl (K.1, 62, .inl (bd_fil (bd_gM seed kk zz) i fM))), (aL, .inl (K.2.1, 62, .inl fL))] H := hP
        have hD : va_D A [(h0, .inr (1, [.long seed, .ref hM, .ref hO, .int (nI (zz + 2)), .ref aS, .ref aA, .ref aB, .ref aN, .ref aM, .ref aL, .int vb, .int vs, .ref aT, .int tl])), (hM, .inr (0, [.long (bd_nW (bd_sk kk) (nI i) (bd_gW seed kk zz i)), .int (bd_sk kk), .int (bd_pb seed (nI kk) (nI zz)), .int (nI i), .int (bd_nS (bd_sk kk) (nI i) (bd_gW seed kk zz i)), .int (bd_nA (nI i) (bd_gW seed kk zz i)), .int (bd_nB (bd_sk kk) (bd_pb seed (nI kk) (nI zz)) (nI i) (bd_gW seed kk zz i)), .int (bd_nN (bd_sk kk) (nI i) (bd_gW seed kk zz i)), .int (bd_nM (bd_sk kk) (nI i) (bd_gW seed kk zz i))])), (aS, .inl (K.1, 62, .inl (bd_fil (bd_gS seed kk zz) (i + 1) fS))), (aA, .inl (K.1, 62, .inl (bd_fil (bd_gA seed kk zz) (i + 1) fA))), (aB, .inl (K.1, 62, .inl (bd_fil (bd_gB seed kk zz) (i + 1) fB))), (aN, .inl (K.1, 62, .inl (upd (bd_fil (bd_gN seed kk zz) i fN) (nI i).toNatClampNeg (bd_nN (bd_sk kk) (nI i) (bd_gW seed kk zz i))))), (aM, .inl (K.1, 62, .inl (bd_fil (bd_gM seed kk zz) i fM))), (aL, .inl (K.2.1, 62, .inl fL))] := hD
        rw [e_105] at hP hD
        have hP : va_P D vwCl [(h0, .inr (1, [.long seed, .ref hM, .ref hO, .int (nI (zz + 2)), .ref aS, .ref aA, .ref aB, .ref aN, .ref aM, .ref aL, .int vb, .int vs, .ref aT, .int tl])), (hM, .inr (0, [.long (bd_nW (bd_sk kk) (nI i) (bd_gW seed kk zz i)), .int (bd_sk kk), .int (bd_pb seed (nI kk) (nI zz)), .int (nI i), .int (bd_nS (bd_sk kk) (nI i) (bd_gW seed kk zz i)), .int (bd_nA (nI i) (bd_gW seed kk zz i)), .int (bd_nB (bd_sk kk) (bd_pb seed (nI kk) (nI zz)) (nI i) (bd_gW seed kk zz i)), .int (bd_nN (bd_sk kk) (nI i) (bd_gW seed kk zz i)), .int (bd_nM (bd_sk kk) (nI i) (bd_gW seed kk zz i))])), (aS, .inl (K.1, 62, .inl (bd_fil (bd_gS seed kk zz) (i + 1) fS))), (aA, .inl (K.1, 62, .inl (bd_fil (bd_gA seed kk zz) (i + 1) fA))), (aB, .inl (K.1, 62, .inl (bd_fil (bd_gB seed kk zz) (i + 1) fB))), (aN, .inl (K.1, 62, .inl (bd_fil (bd_gN seed kk zz) (i + 1) fN))), (aM, .inl (K.1, 62, .inl (bd_fil (bd_gM seed kk zz) i fM))), (aL, .inl (K.2.1, 62, .inl fL))] H := hP
        have hD : va_D A [(h0, .inr (1, [.long seed, .ref hM, .ref hO, .int (nI (zz + 2)), .ref aS, .ref aA, .ref aB, .ref aN, .ref aM, .ref aL, .int vb, .int vs, .ref aT, .int tl])), (hM, .inr (0, [.long (bd_nW (bd_sk kk) (nI i) (bd_gW seed kk zz i)), .int (bd_sk kk), .int (bd_pb seed (nI kk) (nI zz)), .int (nI i), .int (bd_nS (bd_sk kk) (nI i) (bd_gW seed kk zz i)), .int (bd_nA (nI i) (bd_gW seed kk zz i)), .int (bd_nB (bd_sk kk) (bd_pb seed (nI kk) (nI zz)) (nI i) (bd_gW seed kk zz i)), .int (bd_nN (bd_sk kk) (nI i) (bd_gW seed kk zz i)), .int (bd_nM (bd_sk kk) (nI i) (bd_gW seed kk zz i))])), (aS, .inl (K.1, 62, .inl (bd_fil (bd_gS seed kk zz) (i + 1) fS))), (aA, .inl (K.1, 62, .inl (bd_fil (bd_gA seed kk zz) (i + 1) fA))), (aB, .inl (K.1, 62, .inl (bd_fil (bd_gB seed kk zz) (i + 1) fB))), (aN, .inl (K.1, 62, .inl (bd_fil (bd_gN seed kk zz) (i + 1) fN))), (aM, .inl (K.1, 62, .inl (bd_fil (bd_gM seed kk zz) i fM))), (aL, .inl (K.2.1, 62, .inl fL))] := hD
        refine lv_aload_n hx hb d_B_draw_106 rfl (lv_at hl 1 rfl) ?_
        refine va_get (D := D) (ci := 1) (v := .ref aM) (C := "BuildDrawer") (T := TB) (N := 14) hx hb hw inB hown hK hP 0 rfl rfl 8 (by decide) (hw _ k_64) (fun _ h9 => h9) rfl d_B_draw_107 ?_
        refine lv_iload_n hx hb d_B_draw_110 rfl (lv_at hl 0 rfl) ?_
        refine lv_aload_n hx hb d_B_draw_111 rfl (lv_at hl 1 rfl) ?_
        refine va_get (D := D) (ci := 1) (v := .ref hM) (C := "BuildDrawer") (T := TB) (N := 14) hx hb hw inB hown hK hP 0 rfl rfl 1 (by decide) (hw _ k_57) (fun _ h9 => h9) rfl d_B_draw_112 ?_
        refine va_getN (D := D) (ci := 0) (v := .int (bd_nM (bd_sk kk) (nI i) (bd_gW seed kk zz i))) (C := "BuildDrawer$Drawing") (T := TD) (N := 9) hx hb hw inD hown hK hP 1 rfl rfl 8 (by decide) (hE.nw kn_36) (fun _ h9 => h9) rfl d_B_draw_115 ?_
        refine va_iast hx hb hK hP hD hS 6 0 rfl rfl (vp_in_nI (n := i) (by omega) (by omega)) d_B_draw_118 (fun H locs hP hD hS => ?_)
        have e_118 : upd (bd_fil (bd_gM seed kk zz) i fM) (nI i).toNatClampNeg (bd_nM (bd_sk kk) (nI i) (bd_gW seed kk zz i)) = bd_fil (bd_gM seed kk zz) (i + 1) fM := by rw [nI_clamp (by omega)]; exact bd_filS _ _ _ rfl
        have hP : va_P D vwCl [(h0, .inr (1, [.long seed, .ref hM, .ref hO, .int (nI (zz + 2)), .ref aS, .ref aA, .ref aB, .ref aN, .ref aM, .ref aL, .int vb, .int vs, .ref aT, .int tl])), (hM, .inr (0, [.long (bd_nW (bd_sk kk) (nI i) (bd_gW seed kk zz i)), .int (bd_sk kk), .int (bd_pb seed (nI kk) (nI zz)), .int (nI i), .int (bd_nS (bd_sk kk) (nI i) (bd_gW seed kk zz i)), .int (bd_nA (nI i) (bd_gW seed kk zz i)), .int (bd_nB (bd_sk kk) (bd_pb seed (nI kk) (nI zz)) (nI i) (bd_gW seed kk zz i)), .int (bd_nN (bd_sk kk) (nI i) (bd_gW seed kk zz i)), .int (bd_nM (bd_sk kk) (nI i) (bd_gW seed kk zz i))])), (aS, .inl (K.1, 62, .inl (bd_fil (bd_gS seed kk zz) (i + 1) fS))), (aA, .inl (K.1, 62, .inl (bd_fil (bd_gA seed kk zz) (i + 1) fA))), (aB, .inl (K.1, 62, .inl (bd_fil (bd_gB seed kk zz) (i + 1) fB))), (aN, .inl (K.1, 62, .inl (bd_fil (bd_gN seed kk zz) (i + 1) fN))), (aM, .inl (K.1, 62, .inl (upd (bd_fil (bd_gM seed kk zz) i fM) (nI i).toNatClampNeg (bd_nM (bd_sk kk) (nI i) (bd_gW seed kk zz i))))), (aL, .inl (K.2.1, 62, .inl fL))] H := hP
        have hD : va_D A [(h0, .inr (1, [.long seed, .ref hM, .ref hO, .int (nI (zz + 2)), .ref aS, .ref aA, .ref aB, .ref aN, .ref aM, .ref aL, .int vb, .int vs, .ref aT, .int tl])), (hM, .inr (0, [.long (bd_nW (bd_sk kk) (nI i) (bd_gW seed kk zz i)), .int (bd_sk kk), .int (bd_pb seed (nI kk) (nI zz)), .int (nI i), .int (bd_nS (bd_sk kk) (nI i) (bd_gW seed kk zz i)), .int (bd_nA (nI i) (bd_gW seed kk zz i)), .int (bd_nB (bd_sk kk) (bd_pb seed (nI kk) (nI zz)) (nI i) (bd_gW seed kk zz i)), .int (bd_nN (bd_sk kk) (nI i) (bd_gW seed kk zz i)), .int (bd_nM (bd_sk kk) (nI i) (bd_gW seed kk zz i))])), (aS, .inl (K.1, 62, .inl (bd_fil (bd_gS seed kk zz) (i + 1) fS))), (aA, .inl (K.1, 62, .inl (bd_fil (bd_gA seed kk zz) (i + 1) fA))), (aB, .inl (K.1, 62, .inl (bd_fil (bd_gB seed kk zz) (i + 1) fB))), (aN, .inl (K.1, 62, .inl (bd_fil (bd_gN seed kk zz) (i + 1) fN))), (aM, .inl (K.1, 62, .inl (upd (bd_fil (bd_gM seed kk zz) i fM) (nI i).toNatClampNeg (bd_nM (bd_sk kk) (nI i) (bd_gW seed kk zz i))))), (aL, .inl (K.2.1, 62, .inl fL))] := hD
        rw [e_118] at hP hD
        have hP : va_P D vwCl [(h0, .inr (1, [.long seed, .ref hM, .ref hO, .int (nI (zz + 2)), .ref aS, .ref aA, .ref aB, .ref aN, .ref aM, .ref aL, .int vb, .int vs, .ref aT, .int tl])), (hM, .inr (0, [.long (bd_nW (bd_sk kk) (nI i) (bd_gW seed kk zz i)), .int (bd_sk kk), .int (bd_pb seed (nI kk) (nI zz)), .int (nI i), .int (bd_nS (bd_sk kk) (nI i) (bd_gW seed kk zz i)), .int (bd_nA (nI i) (bd_gW seed kk zz i)), .int (bd_nB (bd_sk kk) (bd_pb seed (nI kk) (nI zz)) (nI i) (bd_gW seed kk zz i)), .int (bd_nN (bd_sk kk) (nI i) (bd_gW seed kk zz i)), .int (bd_nM (bd_sk kk) (nI i) (bd_gW seed kk zz i))])), (aS, .inl (K.1, 62, .inl (bd_fil (bd_gS seed kk zz) (i + 1) fS))), (aA, .inl (K.1, 62, .inl (bd_fil (bd_gA seed kk zz) (i + 1) fA))), (aB, .inl (K.1, 62, .inl (bd_fil (bd_gB seed kk zz) (i + 1) fB))), (aN, .inl (K.1, 62, .inl (bd_fil (bd_gN seed kk zz) (i + 1) fN))), (aM, .inl (K.1, 62, .inl (bd_fil (bd_gM seed kk zz) (i + 1) fM))), (aL, .inl (K.2.1, 62, .inl fL))] H := hP
        have hD : va_D A [(h0, .inr (1, [.long seed, .ref hM, .ref hO, .int (nI (zz + 2)), .ref aS, .ref aA, .ref aB, .ref aN, .ref aM, .ref aL, .int vb, .int vs, .ref aT, .int tl])), (hM, .inr (0, [.long (bd_nW (bd_sk kk) (nI i) (bd_gW seed kk zz i)), .int (bd_sk kk), .int (bd_pb seed (nI kk) (nI zz)), .int (nI i), .int (bd_nS (bd_sk kk) (nI i) (bd_gW seed kk zz i)), .int (bd_nA (nI i) (bd_gW seed kk zz i)), .int (bd_nB (bd_sk kk) (bd_pb seed (nI kk) (nI zz)) (nI i) (bd_gW seed kk zz i)), .int (bd_nN (bd_sk kk) (nI i) (bd_gW seed kk zz i)), .int (bd_nM (bd_sk kk) (nI i) (bd_gW seed kk zz i))])), (aS, .inl (K.1, 62, .inl (bd_fil (bd_gS seed kk zz) (i + 1) fS))), (aA, .inl (K.1, 62, .inl (bd_fil (bd_gA seed kk zz) (i + 1) fA))), (aB, .inl (K.1, 62, .inl (bd_fil (bd_gB seed kk zz) (i + 1) fB))), (aN, .inl (K.1, 62, .inl (bd_fil (bd_gN seed kk zz) (i + 1) fN))), (aM, .inl (K.1, 62, .inl (bd_fil (bd_gM seed kk zz) (i + 1) fM))), (aL, .inl (K.2.1, 62, .inl fL))] := hD
        refine lv_iinc (v := nI (i + 1)) (lv' := [(3, .int (nI (i + 1))), (0, .ref h0)]) hx hb d_B_draw_119 hl (k := 0) rfl (by exact cx_inc i) (by decide) rfl (fun ls hl => ?_)
        refine lv_goto (tgt := 33) hx hb d_B_draw_122 (by decide) ?_
        have hP : va_P D vwCl [(h0, .inr (1, [.long seed, .ref hM, .ref hO, .int (nI (zz + 2)), .ref aS, .ref aA, .ref aB, .ref aN, .ref aM, .ref aL, .int vb, .int vs, .ref aT, .int tl])), (hM, .inr (0, [.long (bd_gW seed kk zz (i + 1)), .int (bd_sk kk), .int (bd_pb seed (nI kk) (nI zz)), .int (nI (i + 1) - 1), .int (bd_last so (bd_gS seed kk zz) (i + 1)), .int (bd_last fa (bd_gA seed kk zz) (i + 1)), .int (bd_last fb (bd_gB seed kk zz) (i + 1)), .int (bd_last ne (bd_gN seed kk zz) (i + 1)), .int (bd_last mk (bd_gM seed kk zz) (i + 1))])), (aS, .inl (K.1, 62, .inl (bd_fil (bd_gS seed kk zz) (i + 1) fS))), (aA, .inl (K.1, 62, .inl (bd_fil (bd_gA seed kk zz) (i + 1) fA))), (aB, .inl (K.1, 62, .inl (bd_fil (bd_gB seed kk zz) (i + 1) fB))), (aN, .inl (K.1, 62, .inl (bd_fil (bd_gN seed kk zz) (i + 1) fN))), (aM, .inl (K.1, 62, .inl (bd_fil (bd_gM seed kk zz) (i + 1) fM))), (aL, .inl (K.2.1, 62, .inl fL))] H := by rw [nI_pred]; exact hP
        have hD : va_D A [(h0, .inr (1, [.long seed, .ref hM, .ref hO, .int (nI (zz + 2)), .ref aS, .ref aA, .ref aB, .ref aN, .ref aM, .ref aL, .int vb, .int vs, .ref aT, .int tl])), (hM, .inr (0, [.long (bd_gW seed kk zz (i + 1)), .int (bd_sk kk), .int (bd_pb seed (nI kk) (nI zz)), .int (nI (i + 1) - 1), .int (bd_last so (bd_gS seed kk zz) (i + 1)), .int (bd_last fa (bd_gA seed kk zz) (i + 1)), .int (bd_last fb (bd_gB seed kk zz) (i + 1)), .int (bd_last ne (bd_gN seed kk zz) (i + 1)), .int (bd_last mk (bd_gM seed kk zz) (i + 1))])), (aS, .inl (K.1, 62, .inl (bd_fil (bd_gS seed kk zz) (i + 1) fS))), (aA, .inl (K.1, 62, .inl (bd_fil (bd_gA seed kk zz) (i + 1) fA))), (aB, .inl (K.1, 62, .inl (bd_fil (bd_gB seed kk zz) (i + 1) fB))), (aN, .inl (K.1, 62, .inl (bd_fil (bd_gN seed kk zz) (i + 1) fN))), (aM, .inl (K.1, 62, .inl (bd_fil (bd_gM seed kk zz) (i + 1) fM))), (aL, .inl (K.2.1, 62, .inl fL))] := by rw [nI_pred]; exact hD
        exact ih (i + 1) _ _ _ ⟨(by omega), hP, hD, hS, lv_sub hl [0, 1] rfl⟩ (by omega)
  · have c_5 := r_5
    exact absurd r_5 (by decide)
set_option maxHeartbeats 4000000 in
set_option maxRecDepth 100000 in
theorem c_B_drawN (l : Launch) (G : cx_G) (D : va_G) (K : cx_KT) (sz : Nat) (h0 : Nat) (seed : Int64) (hM : Nat) (hO : Nat) (cnt : Nat) (aS : Nat) (aA : Nat) (aB : Nat) (aN : Nat) (aM : Nat) (aL : Nat) (vb : Int32) (vs : Int32) (aT : Nat) (tl : Int32) (k : Int32) (z : Int32) (hno : bd_can k z = 0) : Met l y_B_draw w_B_draw ({ frames := 1, cells := 0, slots := 0, locals := 21 }) (cx_Pc G D (cx_ty K) [(h0, .inr (1, [.long seed, .ref hM, .ref hO, .int (nI cnt), .ref aS, .ref aA, .ref aB, .ref aN, .ref aM, .ref aL, .int vb, .int vs, .ref aT, .int tl]))] sz [.ref h0, .int k, .int z]) (cx_Qi (-2) D (cx_ty K) [(h0, .inr (1, [.long seed, .ref hM, .ref hO, .int (nI cnt), .ref aS, .ref aA, .ref aB, .ref aN, .ref aM, .ref aL, .int vb, .int vs, .ref aT, .int tl]))] (va_A [(h0, .inr (1, [.long seed, .ref hM, .ref hO, .int (nI cnt), .ref aS, .ref aA, .ref aB, .ref aN, .ref aM, .ref aL, .int vb, .int vs, .ref aT, .int tl]))] sz)) 0 0 (va_A [(h0, .inr (1, [.long seed, .ref hM, .ref hO, .int (nI cnt), .ref aS, .ref aA, .ref aB, .ref aN, .ref aM, .ref aL, .int vb, .int vs, .ref aT, .int tl]))] sz) := by
  refine Met.ofW (cc := prog_1_method_2_code) (maxL := 4) (ret := (some .int)) (by decide) rfl ?_
  intro p e s m args below meth c s₁ B hml hv
  obtain ⟨rfl, hsz, hP, hK, hD0, hE⟩ := hv
  have hx := B.exec
  have hb := B.bytes
  have hr := B.returns
  have hts := atoms_spec (ws := w_B_draw) B.pre
  have hw : ∀ w ∈ cw, w.before _ s = true := fun w h => hts w (List.mem_cons_of_mem _ h)
  have hown : s.vm.findClass "BuildDrawer" = some m.cls := findClass_of_methodNamed B.named
  have hlocks := B.notSynchronized
  subst hsz
  have hD := hD0.self (sz := s.heap.size)
  generalize hAe : va_A [(h0, .inr (1, [.long seed, .ref hM, .ref hO, .int (nI cnt), .ref aS, .ref aA, .ref aB, .ref aN, .ref aM, .ref aL, .int vb, .int vs, .ref aT, .int tl]))] s.heap.size = A at hD hE ⊢
  have hA : ∀ q : Nat, s.heap.size ≤ q → A q := fun q h => by rw [← hAe]; exact Or.inr h
  have hS : va_S A s.heap s.heap [] := va_S.rf
  have hl := lv_entry ([.ref h0, .int k, .int z]) (n := 4) (Nat.le_of_ble_eq_true rfl)
  rw [lg_entry_eq]
  generalize (lg_sl ([.ref h0, .int k, .int z]) ++ List.replicate (4 - (lg_sl ([.ref h0, .int k, .int z])).length) Slot.unset).toArray = ls at hl ⊢
  have hl : lv_has ls 4 [(0, .ref h0), (1, .int k), (2, .int z)] := hl
  refine lv_iload_n hx hb d_B_draw_0 rfl (lv_at hl 1 rfl) ?_
  refine lv_iload_n hx hb d_B_draw_1 rfl (lv_at hl 2 rfl) ?_
  refine cx_ci (wr := [(h0, .inr (1, [.long seed, .ref hM, .ref hO, .int (nI cnt), .ref aS, .ref aA, .ref aB, .ref aN, .ref aM, .ref aL, .int vb, .int vs, .ref aT, .int tl]))]) (wN := [(h0, .inr (1, [.long seed, .ref hM, .ref hO, .int (nI cnt), .ref aS, .ref aA, .ref aB, .ref aN, .ref aM, .ref aL, .int vb, .int vs, .ref aT, .int tl]))]) (va_runS (As := [.int k, .int z]) (rest := []) ⟨hx, hb, hml, hown, hw⟩ (c_B_canBeDrawn l G D K s.heap.size k z) (va_cwS 2 hw (cx_gS k_106 k_107 k_1 k_108) rfl rfl rfl (by decide +kernel) ⟨Nat.le_of_ble_eq_true rfl, Nat.le_of_ble_eq_true rfl⟩) (cx_pre hK hP hD hS hA hE [] rfl rfl (by decide)) rfl rfl hl.1 rfl (lv_room (Nat.le_of_ble_eq_true rfl)) d_B_draw_2 ⟨Nat.le_of_ble_eq_true rfl, Nat.le_of_ble_eq_true rfl⟩) hP hD hS hA [] [0] rfl rfl (by decide) (by decide) [0] rfl rfl (by decide) (fun H locs hP hD hS => ?_)
  refine lv_if_ne (tgt := 11) hx hb d_B_draw_5 (by decide) (fun r_5 => ?_) (fun r_5 => ?_)
  · have c_5 := r_5
    exact absurd hno r_5
  · have c_5 := r_5
    refine lv_bipush (v := (-2)) hx hb d_B_draw_8 (by decide) ?_
    exact cx_iret hx hb hr hlocks hK hP hD hS d_B_draw_10 (rfl) (rfl)
set_option maxHeartbeats 4000000 in
set_option maxRecDepth 100000 in
theorem c_B_same (l : Launch) (G : cx_G) (D : va_G) (K : cx_KT) (sz : Nat) (h0 : Nat) (seed : Int64) (hM : Nat) (hO : Nat) (cnt : Nat) (aS : Nat) (aA : Nat) (aB : Nat) (aN : Nat) (aM : Nat) (aL : Nat) (vb : Int32) (vs : Int32) (aT : Nat) (tl : Int32) (w : Int64) (sk : Int32) (pb : Int32) (nu : Int32) (so : Int32) (fa : Int32) (fb : Int32) (ne : Int32) (mk : Int32) (w2 : Int64) (sk2 : Int32) (pb2 : Int32) (nu2 : Int32) (so2 : Int32) (fa2 : Int32) (fb2 : Int32) (ne2 : Int32) (mk2 : Int32) (ot : Int64) (kk : Nat) (zz : Nat) (hkk : kk < 8) (hzz : zz ≤ 60) : Met l y_B_same w_B_same ({ frames := 4, cells := 0, slots := 0, locals := 83 }) (cx_Pc G D (cx_ty K) [(h0, .inr (1, [.long seed, .ref hM, .ref hO, .int (nI cnt), .ref aS, .ref aA, .ref aB, .ref aN, .ref aM, .ref aL, .int vb, .int vs, .ref aT, .int tl])), (hM, .inr (0, [.long w, .int sk, .int pb, .int nu, .int so, .int fa, .int fb, .int ne, .int mk])), (hO, .inr (0, [.long w2, .int sk2, .int pb2, .int nu2, .int so2, .int fa2, .int fb2, .int ne2, .int mk2]))] sz [.ref h0, .long ot, .int (nI kk), .int (nI zz)]) (cx_Qx (bd_sa seed ot kk zz (zz + 2) 0) D (cx_ty K) (fun (u1 : Nat → Int64) (u2 : Nat → Int32) => [(h0, .inr (1, [.long seed, .ref hM, .ref hO, .int (nI cnt), .ref aS, .ref aA, .ref aB, .ref aN, .ref aM, .ref aL, .int vb, .int vs, .ref aT, .int tl])), (hM, .inr (0, [.long (u1 0), .int (u2 0), .int (u2 1), .int (u2 2), .int (u2 3), .int (u2 4), .int (u2 5), .int (u2 6), .int (u2 7)])), (hO, .inr (0, [.long (u1 1), .int (u2 8), .int (u2 9), .int (u2 10), .int (u2 11), .int (u2 12), .int (u2 13), .int (u2 14), .int (u2 15)]))]) (va_A [(h0, .inr (1, [.long seed, .ref hM, .ref hO, .int (nI cnt), .ref aS, .ref aA, .ref aB, .ref aN, .ref aM, .ref aL, .int vb, .int vs, .ref aT, .int tl])), (hM, .inr (0, [.long w, .int sk, .int pb, .int nu, .int so, .int fa, .int fb, .int ne, .int mk])), (hO, .inr (0, [.long w2, .int sk2, .int pb2, .int nu2, .int so2, .int fa2, .int fb2, .int ne2, .int mk2]))] sz)) 0 0 (va_A [(h0, .inr (1, [.long seed, .ref hM, .ref hO, .int (nI cnt), .ref aS, .ref aA, .ref aB, .ref aN, .ref aM, .ref aL, .int vb, .int vs, .ref aT, .int tl])), (hM, .inr (0, [.long w, .int sk, .int pb, .int nu, .int so, .int fa, .int fb, .int ne, .int mk])), (hO, .inr (0, [.long w2, .int sk2, .int pb2, .int nu2, .int so2, .int fa2, .int fb2, .int ne2, .int mk2]))] sz) := by
  refine Met.ofW (cc := prog_1_method_9_code) (maxL := 6) (ret := (some .boolean)) (by decide) rfl ?_
  intro p e s m args below meth c s₁ B hml hv
  obtain ⟨rfl, hsz, hP, hK, hD0, hE⟩ := hv
  have hx := B.exec
  have hb := B.bytes
  have hr := B.returns
  have hts := atoms_spec (ws := w_B_same) B.pre
  have hw : ∀ w ∈ cw, w.before _ s = true := fun w h => hts w (List.mem_cons_of_mem _ h)
  have hown : s.vm.findClass "BuildDrawer" = some m.cls := findClass_of_methodNamed B.named
  have hlocks := B.notSynchronized
  subst hsz
  have hD := hD0.self (sz := s.heap.size)
  generalize hAe : va_A [(h0, .inr (1, [.long seed, .ref hM, .ref hO, .int (nI cnt), .ref aS, .ref aA, .ref aB, .ref aN, .ref aM, .ref aL, .int vb, .int vs, .ref aT, .int tl])), (hM, .inr (0, [.long w, .int sk, .int pb, .int nu, .int so, .int fa, .int fb, .int ne, .int mk])), (hO, .inr (0, [.long w2, .int sk2, .int pb2, .int nu2, .int so2, .int fa2, .int fb2, .int ne2, .int mk2]))] s.heap.size = A at hD hE ⊢
  have hA : ∀ q : Nat, s.heap.size ≤ q → A q := fun q h => by rw [← hAe]; exact Or.inr h
  have hS : va_S A s.heap s.heap [] := va_S.rf
  have hl := lv_entry ([.ref h0, .long ot, .int (nI kk), .int (nI zz)]) (n := 6) (Nat.le_of_ble_eq_true rfl)
  rw [lg_entry_eq]
  generalize (lg_sl ([.ref h0, .long ot, .int (nI kk), .int (nI zz)]) ++ List.replicate (6 - (lg_sl ([.ref h0, .long ot, .int (nI kk), .int (nI zz)])).length) Slot.unset).toArray = ls at hl ⊢
  have hl : lv_has ls 6 [(0, .ref h0), (1, .long ot), (3, .int (nI kk)), (4, .int (nI zz))] := hl
  refine lv_iload_n hx hb d_B_same_0 rfl (lv_at hl 2 rfl) ?_
  refine lv_iload hx hb d_B_same_1 (lv_at hl 3 rfl) ?_
  refine cx_ci (wr := [(h0, .inr (1, [.long seed, .ref hM, .ref hO, .int (nI cnt), .ref aS, .ref aA, .ref aB, .ref aN, .ref aM, .ref aL, .int vb, .int vs, .ref aT, .int tl])), (hM, .inr (0, [.long w, .int sk, .int pb, .int nu, .int so, .int fa, .int fb, .int ne, .int mk])), (hO, .inr (0, [.long w2, .int sk2, .int pb2, .int nu2, .int so2, .int fa2, .int fb2, .int ne2, .int mk2]))]) (wN := [(h0, .inr (1, [.long seed, .ref hM, .ref hO, .int (nI cnt), .ref aS, .ref aA, .ref aB, .ref aN, .ref aM, .ref aL, .int vb, .int vs, .ref aT, .int tl])), (hM, .inr (0, [.long w, .int sk, .int pb, .int nu, .int so, .int fa, .int fb, .int ne, .int mk])), (hO, .inr (0, [.long w2, .int sk2, .int pb2, .int nu2, .int so2, .int fa2, .int fb2, .int ne2, .int mk2]))]) (va_runS (As := [.int (nI kk), .int (nI zz)]) (rest := []) ⟨hx, hb, hml, hown, hw⟩ (c_B_canBeDrawn l G D K s.heap.size (nI kk) (nI zz)) (va_cwS 2 hw (cx_gS k_106 k_107 k_1 k_108) rfl rfl rfl (by decide +kernel) ⟨Nat.le_of_ble_eq_true rfl, Nat.le_of_ble_eq_true rfl⟩) (cx_pre hK hP hD hS hA hE [] rfl rfl (by decide)) rfl rfl hl.1 rfl (lv_room (Nat.le_of_ble_eq_true rfl)) d_B_same_3 ⟨Nat.le_of_ble_eq_true rfl, Nat.le_of_ble_eq_true rfl⟩) hP hD hS hA [] [0, 1, 2] rfl rfl (by decide) (by decide) [0, 1, 2] rfl rfl (by decide) (fun H locs hP hD hS => ?_)
  refine cx_ti (y := 1) (bd_can_in hkk hzz) ?_
  refine lv_if_ne (tgt := 11) hx hb d_B_same_6 (by decide) (fun r_6 => ?_) (fun r_6 => ?_)
  · have c_6 := r_6
    refine lv_aload_n hx hb d_B_same_11 rfl (lv_at hl 0 rfl) ?_
    refine va_get (D := D) (ci := 1) (v := .ref hM) (C := "BuildDrawer") (T := TB) (N := 14) hx hb hw inB hown hK hP 0 rfl rfl 1 (by decide) (hw _ k_57) (fun _ h9 => h9) rfl d_B_same_12 ?_
    refine lv_aload_n hx hb d_B_same_15 rfl (lv_at hl 0 rfl) ?_
    refine va_get (D := D) (ci := 1) (v := .long seed) (C := "BuildDrawer") (T := TB) (N := 14) hx hb hw inB hown hK hP 0 rfl rfl 0 (by decide) (hw _ k_56) (fun _ h9 => h9) rfl d_B_same_16 ?_
    refine lv_iload_n hx hb d_B_same_19 rfl (lv_at hl 2 rfl) ?_
    refine lv_iload hx hb d_B_same_20 (lv_at hl 3 rfl) ?_
    refine cx_cv (wr := [(h0, .inr (1, [.long seed, .ref hM, .ref hO, .int (nI cnt), .ref aS, .ref aA, .ref aB, .ref aN, .ref aM, .ref aL, .int vb, .int vs, .ref aT, .int tl])), (hO, .inr (0, [.long w2, .int sk2, .int pb2, .int nu2, .int so2, .int fa2, .int fb2, .int ne2, .int mk2]))]) (wN := [(h0, .inr (1, [.long seed, .ref hM, .ref hO, .int (nI cnt), .ref aS, .ref aA, .ref aB, .ref aN, .ref aM, .ref aL, .int vb, .int vs, .ref aT, .int tl])), (hM, .inr (0, [.long (bd_wb seed (nI kk) (nI zz)), .int (bd_sk kk), .int (bd_pb seed (nI kk) (nI zz)), .int (-1), .int so, .int fa, .int fb, .int ne, .int mk])), (hO, .inr (0, [.long w2, .int sk2, .int pb2, .int nu2, .int so2, .int fa2, .int fb2, .int ne2, .int mk2]))]) (va_runVN (As := [.long seed, .int (nI kk), .int (nI zz)]) (rest := []) ⟨hx, hb, hml, hown, hw⟩ (c_D_begin l G D K H.size hM w sk pb nu so fa fb ne mk seed kk (nI zz) (by omega)) ⟨va_cnB 3 hw (cx_gI k_112) rfl rfl rfl (hE.1 _ kn_109) (hw _ k_2) (by decide +kernel) ⟨Nat.le_of_ble_eq_true rfl, Nat.le_of_ble_eq_true rfl⟩, hw _ k_111, hw _ ks_D_begin⟩ (cx_preV (q0 := 1) (ci := 0) hK hP hD hS hA hE rfl rfl [1] rfl rfl (by decide)) rfl rfl hl.1 rfl (lv_room (Nat.le_of_ble_eq_true rfl)) d_B_same_22 ⟨Nat.le_of_ble_eq_true rfl, Nat.le_of_ble_eq_true rfl⟩) hP hD hS hA [1] [0, 2] rfl rfl (by decide) (by decide) [0, 2, 1] rfl rfl (by decide) (fun H locs hP hD hS => ?_)
    refine lv_aload_n hx hb d_B_same_25 rfl (lv_at hl 0 rfl) ?_
    refine va_get (D := D) (ci := 1) (v := .ref hO) (C := "BuildDrawer") (T := TB) (N := 14) hx hb hw inB hown hK hP 0 rfl rfl 2 (by decide) (hw _ k_58) (fun _ h9 => h9) rfl d_B_same_26 ?_
    refine lv_lload_n hx hb d_B_same_29 rfl (lv_at hl 1 rfl) ?_
    refine lv_iload_n hx hb d_B_same_30 rfl (lv_at hl 2 rfl) ?_
    refine lv_iload hx hb d_B_same_31 (lv_at hl 3 rfl) ?_
    refine cx_cv (wr := [(h0, .inr (1, [.long seed, .ref hM, .ref hO, .int (nI cnt), .ref aS, .ref aA, .ref aB, .ref aN, .ref aM, .ref aL, .int vb, .int vs, .ref aT, .int tl])), (hM, .inr (0, [.long (bd_wb seed (nI kk) (nI zz)), .int (bd_sk kk), .int (bd_pb seed (nI kk) (nI zz)), .int (-1), .int so, .int fa, .int fb, .int ne, .int mk]))]) (wN := [(h0, .inr (1, [.long seed, .ref hM, .ref hO, .int (nI cnt), .ref aS, .ref aA, .ref aB, .ref aN, .ref aM, .ref aL, .int vb, .int vs, .ref aT, .int tl])), (hM, .inr (0, [.long (bd_wb seed (nI kk) (nI zz)), .int (bd_sk kk), .int (bd_pb seed (nI kk) (nI zz)), .int (-1), .int so, .int fa, .int fb, .int ne, .int mk])), (hO, .inr (0, [.long (bd_wb ot (nI kk) (nI zz)), .int (bd_sk kk), .int (bd_pb ot (nI kk) (nI zz)), .int (-1), .int so2, .int fa2, .int fb2, .int ne2, .int mk2]))]) (va_runVN (As := [.long ot, .int (nI kk), .int (nI zz)]) (rest := []) ⟨hx, hb, hml, hown, hw⟩ (c_D_begin l G D K H.size hO w2 sk2 pb2 nu2 so2 fa2 fb2 ne2 mk2 ot kk (nI zz) (by omega)) ⟨va_cnB 3 hw (cx_gI k_112) rfl rfl rfl (hE.1 _ kn_109) (hw _ k_2) (by decide +kernel) ⟨Nat.le_of_ble_eq_true rfl, Nat.le_of_ble_eq_true rfl⟩, hw _ k_111, hw _ ks_D_begin⟩ (cx_preV (q0 := 2) (ci := 0) hK hP hD hS hA hE rfl rfl [2] rfl rfl (by decide)) rfl rfl hl.1 rfl (lv_room (Nat.le_of_ble_eq_true rfl)) d_B_same_33 ⟨Nat.le_of_ble_eq_true rfl, Nat.le_of_ble_eq_true rfl⟩) hP hD hS hA [2] [0, 1] rfl rfl (by decide) (by decide) [0, 1, 2] rfl rfl (by decide) (fun H locs hP hD hS => ?_)
    refine lv_iconst (v := 0) hx hb d_B_same_36 (by decide) ?_
    refine lv_istore (lv' := [(5, .int 0), (0, .ref h0), (1, .long ot), (3, .int (nI kk)), (4, .int (nI zz))]) hx hb d_B_same_37 hl (by decide) rfl (fun ls hl => ?_)
    have hP : va_P D vwCl [(h0, .inr (1, [.long seed, .ref hM, .ref hO, .int (nI cnt), .ref aS, .ref aA, .ref aB, .ref aN, .ref aM, .ref aL, .int vb, .int vs, .ref aT, .int tl])), (hM, .inr (0, [.long (bd_gW seed kk zz 0), .int (bd_sk kk), .int (bd_pb seed (nI kk) (nI zz)), .int (nI 0 - 1), .int (bd_last so (bd_gS seed kk zz) 0), .int (bd_last fa (bd_gA seed kk zz) 0), .int (bd_last fb (bd_gB seed kk zz) 0), .int (bd_last ne (bd_gN seed kk zz) 0), .int (bd_last mk (bd_gM seed kk zz) 0)])), (hO, .inr (0, [.long (bd_gW ot kk zz 0), .int (bd_sk kk), .int (bd_pb ot (nI kk) (nI zz)), .int (nI 0 - 1), .int (bd_last so2 (bd_gS ot kk zz) 0), .int (bd_last fa2 (bd_gA ot kk zz) 0), .int (bd_last fb2 (bd_gB ot kk zz) 0), .int (bd_last ne2 (bd_gN ot kk zz) 0), .int (bd_last mk2 (bd_gM ot kk zz) 0)]))] H := by simp only [bd_m1]; exact hP
    have hD : va_D A [(h0, .inr (1, [.long seed, .ref hM, .ref hO, .int (nI cnt), .ref aS, .ref aA, .ref aB, .ref aN, .ref aM, .ref aL, .int vb, .int vs, .ref aT, .int tl])), (hM, .inr (0, [.long (bd_gW seed kk zz 0), .int (bd_sk kk), .int (bd_pb seed (nI kk) (nI zz)), .int (nI 0 - 1), .int (bd_last so (bd_gS seed kk zz) 0), .int (bd_last fa (bd_gA seed kk zz) 0), .int (bd_last fb (bd_gB seed kk zz) 0), .int (bd_last ne (bd_gN seed kk zz) 0), .int (bd_last mk (bd_gM seed kk zz) 0)])), (hO, .inr (0, [.long (bd_gW ot kk zz 0), .int (bd_sk kk), .int (bd_pb ot (nI kk) (nI zz)), .int (nI 0 - 1), .int (bd_last so2 (bd_gS ot kk zz) 0), .int (bd_last fa2 (bd_gA ot kk zz) 0), .int (bd_last fb2 (bd_gB ot kk zz) 0), .int (bd_last ne2 (bd_gN ot kk zz) 0), .int (bd_last mk2 (bd_gM ot kk zz) 0)]))] := by simp only [bd_m1]; exact hD
    refine cx_loop (pc := 39) (st := []) (fun (i : Nat) H locs ls => (i ≤ zz + 2) ∧ (bd_sa seed ot kk zz (zz + 2 - i) i = bd_sa seed ot kk zz (zz + 2) 0) ∧ va_P D vwCl [(h0, .inr (1, [.long seed, .ref hM, .ref hO, .int (nI cnt), .ref aS, .ref aA, .ref aB, .ref aN, .ref aM, .ref aL, .int vb, .int vs, .ref aT, .int tl])), (hM, .inr (0, [.long (bd_gW seed kk zz i), .int (bd_sk kk), .int (bd_pb seed (nI kk) (nI zz)), .int (nI i - 1), .int (bd_last so (bd_gS seed kk zz) i), .int (bd_last fa (bd_gA seed kk zz) i), .int (bd_last fb (bd_gB seed kk zz) i), .int (bd_last ne (bd_gN seed kk zz) i), .int (bd_last mk (bd_gM seed kk zz) i)])), (hO, .inr (0, [.long (bd_gW ot kk zz i), .int (bd_sk kk), .int (bd_pb ot (nI kk) (nI zz)), .int (nI i - 1), .int (bd_last so2 (bd_gS ot kk zz) i), .int (bd_last fa2 (bd_gA ot kk zz) i), .int (bd_last fb2 (bd_gB ot kk zz) i), .int (bd_last ne2 (bd_gN ot kk zz) i), .int (bd_last mk2 (bd_gM ot kk zz) i)]))] H ∧ va_D A [(h0, .inr (1, [.long seed, .ref hM, .ref hO, .int (nI cnt), .ref aS, .ref aA, .ref aB, .ref aN, .ref aM, .ref aL, .int vb, .int vs, .ref aT, .int tl])), (hM, .inr (0, [.long (bd_gW seed kk zz i), .int (bd_sk kk), .int (bd_pb seed (nI kk) (nI zz)), .int (nI i - 1), .int (bd_last so (bd_gS seed kk zz) i), .int (bd_last fa (bd_gA seed kk zz) i), .int (bd_last fb (bd_gB seed kk zz) i), .int (bd_last ne (bd_gN seed kk zz) i), .int (bd_last mk (bd_gM seed kk zz) i)])), (hO, .inr (0, [.long (bd_gW ot kk zz i), .int (bd_sk kk), .int (bd_pb ot (nI kk) (nI zz)), .int (nI i - 1), .int (bd_last so2 (bd_gS ot kk zz) i), .int (bd_last fa2 (bd_gA ot kk zz) i), .int (bd_last fb2 (bd_gB ot kk zz) i), .int (bd_last ne2 (bd_gN ot kk zz) i), .int (bd_last mk2 (bd_gM ot kk zz) i)]))] ∧ va_S A s.heap H locs ∧ lv_has ls 6 [(5, .int (nI i)), (4, .int (nI zz)), (0, .ref h0)]) (fun (i : Nat) => zz + 2 - i) (fun z H locs ls hI ih => ?_) 0 ⟨Nat.zero_le _, rfl, hP, hD, hS, lv_sub hl [0, 4, 1] rfl⟩
    obtain ⟨i, rfl⟩ : ∃ y, y = z := ⟨_, rfl⟩
    obtain ⟨hi, hb9, hP, hD, hS, hl⟩ := hI
    have hP : va_P D vwCl [(h0, .inr (1, [.long seed, .ref hM, .ref hO, .int (nI cnt), .ref aS, .ref aA, .ref aB, .ref aN, .ref aM, .ref aL, .int vb, .int vs, .ref aT, .int tl])), (hM, .inr (0, [.long (bd_gW seed kk zz i), .int (bd_sk kk), .int (bd_pb seed (nI kk) (nI zz)), .int (nI i - 1), .int (bd_last so (bd_gS seed kk zz) i), .int (bd_last fa (bd_gA seed kk zz) i), .int (bd_last fb (bd_gB seed kk zz) i), .int (bd_last ne (bd_gN seed kk zz) i), .int (bd_last mk (bd_gM seed kk zz) i)])), (hO, .inr (0, [.long (bd_gW ot kk zz i), .int (bd_sk kk), .int (bd_pb ot (nI kk) (nI zz)), .int (nI i - 1), .int (bd_last so2 (bd_gS ot kk zz) i), .int (bd_last fa2 (bd_gA ot kk zz) i), .int (bd_last fb2 (bd_gB ot kk zz) i), .int (bd_last ne2 (bd_gN ot kk zz) i), .int (bd_last mk2 (bd_gM ot kk zz) i)]))] H := hP
    have hD : va_D A [(h0, .inr (1, [.long seed, .ref hM, .ref hO, .int (nI cnt), .ref aS, .ref aA, .ref aB, .ref aN, .ref aM, .ref aL, .int vb, .int vs, .ref aT, .int tl])), (hM, .inr (0, [.long (bd_gW seed kk zz i), .int (bd_sk kk), .int (bd_pb seed (nI kk) (nI zz)), .int (nI i - 1), .int (bd_last so (bd_gS seed kk zz) i), .int (bd_last fa (bd_gA seed kk zz) i), .int (bd_last fb (bd_gB seed kk zz) i), .int (bd_last ne (bd_gN seed kk zz) i), .int (bd_last mk (bd_gM seed kk zz) i)])), (hO, .inr (0, [.long (bd_gW ot kk zz i), .int (bd_sk kk), .int (bd_pb ot (nI kk) (nI zz)), .int (nI i - 1), .int (bd_last so2 (bd_gS ot kk zz) i), .int (bd_last fa2 (bd_gA ot kk zz) i), .int (bd_last fb2 (bd_gB ot kk zz) i), .int (bd_last ne2 (bd_gN ot kk zz) i), .int (bd_last mk2 (bd_gM ot kk zz) i)]))] := hD
    have hl : lv_has ls 6 [(5, .int (nI i)), (4, .int (nI zz)), (0, .ref h0)] := hl
    refine lv_iload hx hb d_B_same_39 (lv_at hl 0 rfl) ?_
    refine lv_iload hx hb d_B_same_41 (lv_at hl 1 rfl) ?_
    refine lv_iconst (v := 2) hx hb d_B_same_43 (by decide) ?_
    refine lv_iadd hx hb d_B_same_44 ?_
    refine cx_ti (y := nI (zz + 2)) (by exact nI_add zz 2) ?_
    refine lv_icmp_ge (tgt := 84) hx hb d_B_same_45 (by decide) (fun r_45 => ?_) (fun r_45 => ?_)
    · have c_45 := (nI_leI (a := (zz + 2)) (b := i) (by omega) (by omega)).mp r_45
      refine lv_iconst (v := 1) hx hb d_B_same_84 (by decide) ?_
      exact cx_zretx hx hb hr hlocks hK hP hD hS d_B_same_85 rfl (by rw [← hb9, show zz + 2 - i = 0 by omega, bd_sa]) (fun n => [bd_gW seed kk zz i, bd_gW ot kk zz i].getD n 0) (fun n => [bd_sk kk, bd_pb seed (nI kk) (nI zz), nI i - 1, bd_last so (bd_gS seed kk zz) i, bd_last fa (bd_gA seed kk zz) i, bd_last fb (bd_gB seed kk zz) i, bd_last ne (bd_gN seed kk zz) i, bd_last mk (bd_gM seed kk zz) i, bd_sk kk, bd_pb ot (nI kk) (nI zz), nI i - 1, bd_last so2 (bd_gS ot kk zz) i, bd_last fa2 (bd_gA ot kk zz) i, bd_last fb2 (bd_gB ot kk zz) i, bd_last ne2 (bd_gN ot kk zz) i, bd_last mk2 (bd_gM ot kk zz) i].getD n 0) rfl
    · have c_45 := mt (nI_leI (a := (zz + 2)) (b := i) (by omega) (by omega)).mpr r_45
      refine lv_aload_n hx hb d_B_same_48 rfl (lv_at hl 2 rfl) ?_
      refine va_get (D := D) (ci := 1) (v := .ref hM) (C := "BuildDrawer") (T := TB) (N := 14) hx hb hw inB hown hK hP 0 rfl rfl 1 (by decide) (hw _ k_57) (fun _ h9 => h9) rfl d_B_same_49 ?_
      refine cx_cv (wr := [(h0, .inr (1, [.long seed, .ref hM, .ref hO, .int (nI cnt), .ref aS, .ref aA, .ref aB, .ref aN, .ref aM, .ref aL, .int vb, .int vs, .ref aT, .int tl])), (hO, .inr (0, [.long (bd_gW ot kk zz i), .int (bd_sk kk), .int (bd_pb ot (nI kk) (nI zz)), .int (nI i - 1), .int (bd_last so2 (bd_gS ot kk zz) i), .int (bd_last fa2 (bd_gA ot kk zz) i), .int (bd_last fb2 (bd_gB ot kk zz) i), .int (bd_last ne2 (bd_gN ot kk zz) i), .int (bd_last mk2 (bd_gM ot kk zz) i)]))]) (wN := [(h0, .inr (1, [.long seed, .ref hM, .ref hO, .int (nI cnt), .ref aS, .ref aA, .ref aB, .ref aN, .ref aM, .ref aL, .int vb, .int vs, .ref aT, .int tl])), (hM, .inr (0, [.long (bd_nW (bd_sk kk) (nI i - 1 + 1) (bd_gW seed kk zz i)), .int (bd_sk kk), .int (bd_pb seed (nI kk) (nI zz)), .int (nI i - 1 + 1), .int (bd_nS (bd_sk kk) (nI i - 1 + 1) (bd_gW seed kk zz i)), .int (bd_nA (nI i - 1 + 1) (bd_gW seed kk zz i)), .int (bd_nB (bd_sk kk) (bd_pb seed (nI kk) (nI zz)) (nI i - 1 + 1) (bd_gW seed kk zz i)), .int (bd_nN (bd_sk kk) (nI i - 1 + 1) (bd_gW seed kk zz i)), .int (bd_nM (bd_sk kk) (nI i - 1 + 1) (bd_gW seed kk zz i))])), (hO, .inr (0, [.long (bd_gW ot kk zz i), .int (bd_sk kk), .int (bd_pb ot (nI kk) (nI zz)), .int (nI i - 1), .int (bd_last so2 (bd_gS ot kk zz) i), .int (bd_last fa2 (bd_gA ot kk zz) i), .int (bd_last fb2 (bd_gB ot kk zz) i), .int (bd_last ne2 (bd_gN ot kk zz) i), .int (bd_last mk2 (bd_gM ot kk zz) i)]))]) (va_runVN (As := []) (rest := []) ⟨hx, hb, hml, hown, hw⟩ (c_D_next l G D K H.size hM (bd_gW seed kk zz i) (bd_sk kk) (bd_pb seed (nI kk) (nI zz)) (nI i - 1) (bd_last so (bd_gS seed kk zz) i) (bd_last fa (bd_gA seed kk zz) i) (bd_last fb (bd_gB seed kk zz) i) (bd_last ne (bd_gN seed kk zz) i) (bd_last mk (bd_gM seed kk zz) i)) ⟨va_cnB 0 hw (cx_gI k_128) rfl rfl rfl (hE.1 _ kn_125) (hw _ k_2) (by decide +kernel) ⟨Nat.le_of_ble_eq_true rfl, Nat.le_of_ble_eq_true rfl⟩, hw _ k_127, hw _ ks_D_next⟩ (cx_preV (q0 := 1) (ci := 0) hK hP hD hS hA hE rfl rfl [1] rfl rfl (by decide)) rfl rfl hl.1 rfl (lv_room (Nat.le_of_ble_eq_true rfl)) d_B_same_52 ⟨Nat.le_of_ble_eq_true rfl, Nat.le_of_ble_eq_true rfl⟩) hP hD hS hA [1] [0, 2] rfl rfl (by decide) (by decide) [0, 2, 1] rfl rfl (by decide) (fun H locs hP hD hS => ?_)
      refine lv_aload_n hx hb d_B_same_55 rfl (lv_at hl 2 rfl) ?_
      refine va_get (D := D) (ci := 1) (v := .ref hO) (C := "BuildDrawer") (T := TB) (N := 14) hx hb hw inB hown hK hP 0 rfl rfl 2 (by decide) (hw _ k_58) (fun _ h9 => h9) rfl d_B_same_56 ?_
      refine cx_cv (wr := [(h0, .inr (1, [.long seed, .ref hM, .ref hO, .int (nI cnt), .ref aS, .ref aA, .ref aB, .ref aN, .ref aM, .ref aL, .int vb, .int vs, .ref aT, .int tl])), (hM, .inr (0, [.long (bd_nW (bd_sk kk) (nI i - 1 + 1) (bd_gW seed kk zz i)), .int (bd_sk kk), .int (bd_pb seed (nI kk) (nI zz)), .int (nI i - 1 + 1), .int (bd_nS (bd_sk kk) (nI i - 1 + 1) (bd_gW seed kk zz i)), .int (bd_nA (nI i - 1 + 1) (bd_gW seed kk zz i)), .int (bd_nB (bd_sk kk) (bd_pb seed (nI kk) (nI zz)) (nI i - 1 + 1) (bd_gW seed kk zz i)), .int (bd_nN (bd_sk kk) (nI i - 1 + 1) (bd_gW seed kk zz i)), .int (bd_nM (bd_sk kk) (nI i - 1 + 1) (bd_gW seed kk zz i))]))]) (wN := [(h0, .inr (1, [.long seed, .ref hM, .ref hO, .int (nI cnt), .ref aS, .ref aA, .ref aB, .ref aN, .ref aM, .ref aL, .int vb, .int vs, .ref aT, .int tl])), (hM, .inr (0, [.long (bd_nW (bd_sk kk) (nI i - 1 + 1) (bd_gW seed kk zz i)), .int (bd_sk kk), .int (bd_pb seed (nI kk) (nI zz)), .int (nI i - 1 + 1), .int (bd_nS (bd_sk kk) (nI i - 1 + 1) (bd_gW seed kk zz i)), .int (bd_nA (nI i - 1 + 1) (bd_gW seed kk zz i)), .int (bd_nB (bd_sk kk) (bd_pb seed (nI kk) (nI zz)) (nI i - 1 + 1) (bd_gW seed kk zz i)), .int (bd_nN (bd_sk kk) (nI i - 1 + 1) (bd_gW seed kk zz i)), .int (bd_nM (bd_sk kk) (nI i - 1 + 1) (bd_gW seed kk zz i))])), (hO, .inr (0, [.long (bd_nW (bd_sk kk) (nI i - 1 + 1) (bd_gW ot kk zz i)), .int (bd_sk kk), .int (bd_pb ot (nI kk) (nI zz)), .int (nI i - 1 + 1), .int (bd_nS (bd_sk kk) (nI i - 1 + 1) (bd_gW ot kk zz i)), .int (bd_nA (nI i - 1 + 1) (bd_gW ot kk zz i)), .int (bd_nB (bd_sk kk) (bd_pb ot (nI kk) (nI zz)) (nI i - 1 + 1) (bd_gW ot kk zz i)), .int (bd_nN (bd_sk kk) (nI i - 1 + 1) (bd_gW ot kk zz i)), .int (bd_nM (bd_sk kk) (nI i - 1 + 1) (bd_gW ot kk zz i))]))]) (va_runVN (As := []) (rest := []) ⟨hx, hb, hml, hown, hw⟩ (c_D_next l G D K H.size hO (bd_gW ot kk zz i) (bd_sk kk) (bd_pb ot (nI kk) (nI zz)) (nI i - 1) (bd_last so2 (bd_gS ot kk zz) i) (bd_last fa2 (bd_gA ot kk zz) i) (bd_last fb2 (bd_gB ot kk zz) i) (bd_last ne2 (bd_gN ot kk zz) i) (bd_last mk2 (bd_gM ot kk zz) i)) ⟨va_cnB 0 hw (cx_gI k_128) rfl rfl rfl (hE.1 _ kn_125) (hw _ k_2) (by decide +kernel) ⟨Nat.le_of_ble_eq_true rfl, Nat.le_of_ble_eq_true rfl⟩, hw _ k_127, hw _ ks_D_next⟩ (cx_preV (q0 := 2) (ci := 0) hK hP hD hS hA hE rfl rfl [2] rfl rfl (by decide)) rfl rfl hl.1 rfl (lv_room (Nat.le_of_ble_eq_true rfl)) d_B_same_59 ⟨Nat.le_of_ble_eq_true rfl, Nat.le_of_ble_eq_true rfl⟩) hP hD hS hA [2] [0, 1] rfl rfl (by decide) (by decide) [0, 1, 2] rfl rfl (by decide) (fun H locs hP hD hS => ?_)
      rw [bd_pm1] at hP hD
      have hP : va_P D vwCl [(h0, .inr (1, [.long seed, .ref hM, .ref hO, .int (nI cnt), .ref aS, .ref aA, .ref aB, .ref aN, .ref aM, .ref aL, .int vb, .int vs, .ref aT, .int tl])), (hM, .inr (0, [.long (bd_nW (bd_sk kk) (nI i) (bd_gW seed kk zz i)), .int (bd_sk kk), .int (bd_pb seed (nI kk) (nI zz)), .int (nI i), .int (bd_nS (bd_sk kk) (nI i) (bd_gW seed kk zz i)), .int (bd_nA (nI i) (bd_gW seed kk zz i)), .int (bd_nB (bd_sk kk) (bd_pb seed (nI kk) (nI zz)) (nI i) (bd_gW seed kk zz i)), .int (bd_nN (bd_sk kk) (nI i) (bd_gW seed kk zz i)), .int (bd_nM (bd_sk kk) (nI i) (bd_gW seed kk zz i))])), (hO, .inr (0, [.long (bd_nW (bd_sk kk) (nI i) (bd_gW ot kk zz i)), .int (bd_sk kk), .int (bd_pb ot (nI kk) (nI zz)), .int (nI i), .int (bd_nS (bd_sk kk) (nI i) (bd_gW ot kk zz i)), .int (bd_nA (nI i) (bd_gW ot kk zz i)), .int (bd_nB (bd_sk kk) (bd_pb ot (nI kk) (nI zz)) (nI i) (bd_gW ot kk zz i)), .int (bd_nN (bd_sk kk) (nI i) (bd_gW ot kk zz i)), .int (bd_nM (bd_sk kk) (nI i) (bd_gW ot kk zz i))]))] H := hP
      have hD : va_D A [(h0, .inr (1, [.long seed, .ref hM, .ref hO, .int (nI cnt), .ref aS, .ref aA, .ref aB, .ref aN, .ref aM, .ref aL, .int vb, .int vs, .ref aT, .int tl])), (hM, .inr (0, [.long (bd_nW (bd_sk kk) (nI i) (bd_gW seed kk zz i)), .int (bd_sk kk), .int (bd_pb seed (nI kk) (nI zz)), .int (nI i), .int (bd_nS (bd_sk kk) (nI i) (bd_gW seed kk zz i)), .int (bd_nA (nI i) (bd_gW seed kk zz i)), .int (bd_nB (bd_sk kk) (bd_pb seed (nI kk) (nI zz)) (nI i) (bd_gW seed kk zz i)), .int (bd_nN (bd_sk kk) (nI i) (bd_gW seed kk zz i)), .int (bd_nM (bd_sk kk) (nI i) (bd_gW seed kk zz i))])), (hO, .inr (0, [.long (bd_nW (bd_sk kk) (nI i) (bd_gW ot kk zz i)), .int (bd_sk kk), .int (bd_pb ot (nI kk) (nI zz)), .int (nI i), .int (bd_nS (bd_sk kk) (nI i) (bd_gW ot kk zz i)), .int (bd_nA (nI i) (bd_gW ot kk zz i)), .int (bd_nB (bd_sk kk) (bd_pb ot (nI kk) (nI zz)) (nI i) (bd_gW ot kk zz i)), .int (bd_nN (bd_sk kk) (nI i) (bd_gW ot kk zz i)), .int (bd_nM (bd_sk kk) (nI i) (bd_gW ot kk zz i))]))] := hD
      refine lv_aload_n hx hb d_B_same_62 rfl (lv_at hl 2 rfl) ?_
      refine va_get (D := D) (ci := 1) (v := .ref hM) (C := "BuildDrawer") (T := TB) (N := 14) hx hb hw inB hown hK hP 0 rfl rfl 1 (by decide) (hw _ k_57) (fun _ h9 => h9) rfl d_B_same_63 ?_
      refine lv_aload_n hx hb d_B_same_66 rfl (lv_at hl 2 rfl) ?_
      refine va_get (D := D) (ci := 1) (v := .ref hO) (C := "BuildDrawer") (T := TB) (N := 14) hx hb hw inB hown hK hP 0 rfl rfl 2 (by decide) (hw _ k_58) (fun _ h9 => h9) rfl d_B_same_67 ?_
      refine cx_ci (wr := [(h0, .inr (1, [.long seed, .ref hM, .ref hO, .int (nI cnt), .ref aS, .ref aA, .ref aB, .ref aN, .ref aM, .ref aL, .int vb, .int vs, .ref aT, .int tl]))]) (wN := [(h0, .inr (1, [.long seed, .ref hM, .ref hO, .int (nI cnt), .ref aS, .ref aA, .ref aB, .ref aN, .ref aM, .ref aL, .int vb, .int vs, .ref aT, .int tl])), (hM, .inr (0, [.long (bd_nW (bd_sk kk) (nI i) (bd_gW seed kk zz i)), .int (bd_sk kk), .int (bd_pb seed (nI kk) (nI zz)), .int (nI i), .int (bd_nS (bd_sk kk) (nI i) (bd_gW seed kk zz i)), .int (bd_nA (nI i) (bd_gW seed kk zz i)), .int (bd_nB (bd_sk kk) (bd_pb seed (nI kk) (nI zz)) (nI i) (bd_gW seed kk zz i)), .int (bd_nN (bd_sk kk) (nI i) (bd_gW seed kk zz i)), .int (bd_nM (bd_sk kk) (nI i) (bd_gW seed kk zz i))])), (hO, .inr (0, [.long (bd_nW (bd_sk kk) (nI i) (bd_gW ot kk zz i)), .int (bd_sk kk), .int (bd_pb ot (nI kk) (nI zz)), .int (nI i), .int (bd_nS (bd_sk kk) (nI i) (bd_gW ot kk zz i)), .int (bd_nA (nI i) (bd_gW ot kk zz i)), .int (bd_nB (bd_sk kk) (bd_pb ot (nI kk) (nI zz)) (nI i) (bd_gW ot kk zz i)), .int (bd_nN (bd_sk kk) (nI i) (bd_gW ot kk zz i)), .int (bd_nM (bd_sk kk) (nI i) (bd_gW ot kk zz i))]))]) (va_runVN (As := [.ref hO]) (rest := []) ⟨hx, hb, hml, hown, hw⟩ (c_D_isAtTheLikeOf l G D K H.size hM hO (bd_nW (bd_sk kk) (nI i) (bd_gW seed kk zz i)) (bd_sk kk) (bd_pb seed (nI kk) (nI zz)) (nI i) (bd_nS (bd_sk kk) (nI i) (bd_gW seed kk zz i)) (bd_nA (nI i) (bd_gW seed kk zz i)) (bd_nB (bd_sk kk) (bd_pb seed (nI kk) (nI zz)) (nI i) (bd_gW seed kk zz i)) (bd_nN (bd_sk kk) (nI i) (bd_gW seed kk zz i)) (bd_nM (bd_sk kk) (nI i) (bd_gW seed kk zz i)) (bd_nW (bd_sk kk) (nI i) (bd_gW ot kk zz i)) (bd_sk kk) (bd_pb ot (nI kk) (nI zz)) (nI i) (bd_nS (bd_sk kk) (nI i) (bd_gW ot kk zz i)) (bd_nA (nI i) (bd_gW ot kk zz i)) (bd_nB (bd_sk kk) (bd_pb ot (nI kk) (nI zz)) (nI i) (bd_gW ot kk zz i)) (bd_nN (bd_sk kk) (nI i) (bd_gW ot kk zz i)) (bd_nM (bd_sk kk) (nI i) (bd_gW ot kk zz i))) ⟨va_cnB 1 hw (cx_gI k_293) rfl rfl rfl (hE.1 _ kn_290) (hw _ k_2) (by decide +kernel) ⟨Nat.le_of_ble_eq_true rfl, Nat.le_of_ble_eq_true rfl⟩, hw _ k_292, hw _ ks_D_isAtTheLikeOf⟩ (cx_preV (q0 := 1) (ci := 0) hK hP hD hS hA hE rfl rfl [1, 2] rfl rfl (by decide)) rfl rfl hl.1 rfl (lv_room (Nat.le_of_ble_eq_true rfl)) d_B_same_70 ⟨Nat.le_of_ble_eq_true rfl, Nat.le_of_ble_eq_true rfl⟩) hP hD hS hA [1, 2] [0] rfl rfl (by decide) (by decide) [0, 1, 2] rfl rfl (by decide) (fun H locs hP hD hS => ?_)
      refine lv_if_ne (tgt := 78) hx hb d_B_same_73 (by decide) (fun r_73 => ?_) (fun r_73 => ?_)
      · have c_73 := r_73
        refine lv_iinc (v := nI (i + 1)) (lv' := [(5, .int (nI (i + 1))), (4, .int (nI zz)), (0, .ref h0)]) hx hb d_B_same_78 hl (k := 0) rfl (by exact cx_inc i) (by decide) rfl (fun ls hl => ?_)
        refine lv_goto (tgt := 39) hx hb d_B_same_81 (by decide) ?_
        have hP : va_P D vwCl [(h0, .inr (1, [.long seed, .ref hM, .ref hO, .int (nI cnt), .ref aS, .ref aA, .ref aB, .ref aN, .ref aM, .ref aL, .int vb, .int vs, .ref aT, .int tl])), (hM, .inr (0, [.long (bd_gW seed kk zz (i + 1)), .int (bd_sk kk), .int (bd_pb seed (nI kk) (nI zz)), .int (nI (i + 1) - 1), .int (bd_last so (bd_gS seed kk zz) (i + 1)), .int (bd_last fa (bd_gA seed kk zz) (i + 1)), .int (bd_last fb (bd_gB seed kk zz) (i + 1)), .int (bd_last ne (bd_gN seed kk zz) (i + 1)), .int (bd_last mk (bd_gM seed kk zz) (i + 1))])), (hO, .inr (0, [.long (bd_gW ot kk zz (i + 1)), .int (bd_sk kk), .int (bd_pb ot (nI kk) (nI zz)), .int (nI (i + 1) - 1), .int (bd_last so2 (bd_gS ot kk zz) (i + 1)), .int (bd_last fa2 (bd_gA ot kk zz) (i + 1)), .int (bd_last fb2 (bd_gB ot kk zz) (i + 1)), .int (bd_last ne2 (bd_gN ot kk zz) (i + 1)), .int (bd_last mk2 (bd_gM ot kk zz) (i + 1))]))] H := by rw [nI_pred]; exact hP
        have hD : va_D A [(h0, .inr (1, [.long seed, .ref hM, .ref hO, .int (nI cnt), .ref aS, .ref aA, .ref aB, .ref aN, .ref aM, .ref aL, .int vb, .int vs, .ref aT, .int tl])), (hM, .inr (0, [.long (bd_gW seed kk zz (i + 1)), .int (bd_sk kk), .int (bd_pb seed (nI kk) (nI zz)), .int (nI (i + 1) - 1), .int (bd_last so (bd_gS seed kk zz) (i + 1)), .int (bd_last fa (bd_gA seed kk zz) (i + 1)), .int (bd_last fb (bd_gB seed kk zz) (i + 1)), .int (bd_last ne (bd_gN seed kk zz) (i + 1)), .int (bd_last mk (bd_gM seed kk zz) (i + 1))])), (hO, .inr (0, [.long (bd_gW ot kk zz (i + 1)), .int (bd_sk kk), .int (bd_pb ot (nI kk) (nI zz)), .int (nI (i + 1) - 1), .int (bd_last so2 (bd_gS ot kk zz) (i + 1)), .int (bd_last fa2 (bd_gA ot kk zz) (i + 1)), .int (bd_last fb2 (bd_gB ot kk zz) (i + 1)), .int (bd_last ne2 (bd_gN ot kk zz) (i + 1)), .int (bd_last mk2 (bd_gM ot kk zz) (i + 1))]))] := by rw [nI_pred]; exact hD
        exact ih (i + 1) _ _ _ ⟨(by omega), (by rw [← hb9, show zz + 2 - i = (zz + 2 - (i + 1)) + 1 by omega, bd_sa]; exact (if_neg r_73).symm), hP, hD, hS, lv_sub hl [0, 1, 2] rfl⟩ (by omega)
      · have c_73 := r_73
        refine lv_iconst (v := 0) hx hb d_B_same_76 (by decide) ?_
        exact cx_zretx hx hb hr hlocks hK hP hD hS d_B_same_77 rfl (by rw [← hb9, show zz + 2 - i = (zz + 2 - (i + 1)) + 1 by omega, bd_sa]; exact (if_pos r_73).symm) (fun n => [bd_nW (bd_sk kk) (nI i) (bd_gW seed kk zz i), bd_nW (bd_sk kk) (nI i) (bd_gW ot kk zz i)].getD n 0) (fun n => [bd_sk kk, bd_pb seed (nI kk) (nI zz), nI i, bd_nS (bd_sk kk) (nI i) (bd_gW seed kk zz i), bd_nA (nI i) (bd_gW seed kk zz i), bd_nB (bd_sk kk) (bd_pb seed (nI kk) (nI zz)) (nI i) (bd_gW seed kk zz i), bd_nN (bd_sk kk) (nI i) (bd_gW seed kk zz i), bd_nM (bd_sk kk) (nI i) (bd_gW seed kk zz i), bd_sk kk, bd_pb ot (nI kk) (nI zz), nI i, bd_nS (bd_sk kk) (nI i) (bd_gW ot kk zz i), bd_nA (nI i) (bd_gW ot kk zz i), bd_nB (bd_sk kk) (bd_pb ot (nI kk) (nI zz)) (nI i) (bd_gW ot kk zz i), bd_nN (bd_sk kk) (nI i) (bd_gW ot kk zz i), bd_nM (bd_sk kk) (nI i) (bd_gW ot kk zz i)].getD n 0) rfl
  · have c_6 := r_6
    exact absurd r_6 (by decide)
set_option maxHeartbeats 4000000 in
set_option maxRecDepth 100000 in
theorem c_B_sameN (l : Launch) (G : cx_G) (D : va_G) (K : cx_KT) (sz : Nat) (h0 : Nat) (seed : Int64) (hM : Nat) (hO : Nat) (cnt : Nat) (aS : Nat) (aA : Nat) (aB : Nat) (aN : Nat) (aM : Nat) (aL : Nat) (vb : Int32) (vs : Int32) (aT : Nat) (tl : Int32) (ot : Int64) (k : Int32) (z : Int32) (hno : bd_can k z = 0) : Met l y_B_same w_B_same ({ frames := 1, cells := 0, slots := 0, locals := 21 }) (cx_Pc G D (cx_ty K) [(h0, .inr (1, [.long seed, .ref hM, .ref hO, .int (nI cnt), .ref aS, .ref aA, .ref aB, .ref aN, .ref aM, .ref aL, .int vb, .int vs, .ref aT, .int tl]))] sz [.ref h0, .long ot, .int k, .int z]) (cx_Qi 0 D (cx_ty K) [(h0, .inr (1, [.long seed, .ref hM, .ref hO, .int (nI cnt), .ref aS, .ref aA, .ref aB, .ref aN, .ref aM, .ref aL, .int vb, .int vs, .ref aT, .int tl]))] (va_A [(h0, .inr (1, [.long seed, .ref hM, .ref hO, .int (nI cnt), .ref aS, .ref aA, .ref aB, .ref aN, .ref aM, .ref aL, .int vb, .int vs, .ref aT, .int tl]))] sz)) 0 0 (va_A [(h0, .inr (1, [.long seed, .ref hM, .ref hO, .int (nI cnt), .ref aS, .ref aA, .ref aB, .ref aN, .ref aM, .ref aL, .int vb, .int vs, .ref aT, .int tl]))] sz) := by
  refine Met.ofW (cc := prog_1_method_9_code) (maxL := 6) (ret := (some .boolean)) (by decide) rfl ?_
  intro p e s m args below meth c s₁ B hml hv
  obtain ⟨rfl, hsz, hP, hK, hD0, hE⟩ := hv
  have hx := B.exec
  have hb := B.bytes
  have hr := B.returns
  have hts := atoms_spec (ws := w_B_same) B.pre
  have hw : ∀ w ∈ cw, w.before _ s = true := fun w h => hts w (List.mem_cons_of_mem _ h)
  have hown : s.vm.findClass "BuildDrawer" = some m.cls := findClass_of_methodNamed B.named
  have hlocks := B.notSynchronized
  subst hsz
  have hD := hD0.self (sz := s.heap.size)
  generalize hAe : va_A [(h0, .inr (1, [.long seed, .ref hM, .ref hO, .int (nI cnt), .ref aS, .ref aA, .ref aB, .ref aN, .ref aM, .ref aL, .int vb, .int vs, .ref aT, .int tl]))] s.heap.size = A at hD hE ⊢
  have hA : ∀ q : Nat, s.heap.size ≤ q → A q := fun q h => by rw [← hAe]; exact Or.inr h
  have hS : va_S A s.heap s.heap [] := va_S.rf
  have hl := lv_entry ([.ref h0, .long ot, .int k, .int z]) (n := 6) (Nat.le_of_ble_eq_true rfl)
  rw [lg_entry_eq]
  generalize (lg_sl ([.ref h0, .long ot, .int k, .int z]) ++ List.replicate (6 - (lg_sl ([.ref h0, .long ot, .int k, .int z])).length) Slot.unset).toArray = ls at hl ⊢
  have hl : lv_has ls 6 [(0, .ref h0), (1, .long ot), (3, .int k), (4, .int z)] := hl
  refine lv_iload_n hx hb d_B_same_0 rfl (lv_at hl 2 rfl) ?_
  refine lv_iload hx hb d_B_same_1 (lv_at hl 3 rfl) ?_
  refine cx_ci (wr := [(h0, .inr (1, [.long seed, .ref hM, .ref hO, .int (nI cnt), .ref aS, .ref aA, .ref aB, .ref aN, .ref aM, .ref aL, .int vb, .int vs, .ref aT, .int tl]))]) (wN := [(h0, .inr (1, [.long seed, .ref hM, .ref hO, .int (nI cnt), .ref aS, .ref aA, .ref aB, .ref aN, .ref aM, .ref aL, .int vb, .int vs, .ref aT, .int tl]))]) (va_runS (As := [.int k, .int z]) (rest := []) ⟨hx, hb, hml, hown, hw⟩ (c_B_canBeDrawn l G D K s.heap.size k z) (va_cwS 2 hw (cx_gS k_106 k_107 k_1 k_108) rfl rfl rfl (by decide +kernel) ⟨Nat.le_of_ble_eq_true rfl, Nat.le_of_ble_eq_true rfl⟩) (cx_pre hK hP hD hS hA hE [] rfl rfl (by decide)) rfl rfl hl.1 rfl (lv_room (Nat.le_of_ble_eq_true rfl)) d_B_same_3 ⟨Nat.le_of_ble_eq_true rfl, Nat.le_of_ble_eq_true rfl⟩) hP hD hS hA [] [0] rfl rfl (by decide) (by decide) [0] rfl rfl (by decide) (fun H locs hP hD hS => ?_)
  refine lv_if_ne (tgt := 11) hx hb d_B_same_6 (by decide) (fun r_6 => ?_) (fun r_6 => ?_)
  · have c_6 := r_6
    exact absurd hno r_6
  · have c_6 := r_6
    refine lv_iconst (v := 0) hx hb d_B_same_9 (by decide) ?_
    exact cx_zret hx hb hr hlocks hK hP hD hS d_B_same_10 (rfl) (rfl) (rfl)
end
section
theorem cx_recvS {p : Program} {s : State} {H : Heap} {locs : List Loc} {G : cx_G} {A : Nat → Prop} (hE : cx_E G A s s.heap) (hS : va_S A s.heap H locs) : ∃ cell : Cell, H[G.2.1]? = some cell ∧ cell.vm.isStatics = false ∧ s.vm.findClass "java/lang/String" = some cell.cls := by
  obtain ⟨cell, h1, h2, h3, -⟩ := hE.2.2.2.1.2.1.kept hS.2.1
  exact ⟨cell, h1, h2, h3⟩
theorem cx_preS {s : State} {H : Heap} {locs : List Loc} {D : va_G} {G : cx_G} {A : Nat → Prop} {As : List Value} {tys : List (ClassId × FieldType)} {ws wc : va_W} (hK : va_K D vwCl tys s) (hP : va_P D vwCl ws H) (hD : va_D A ws) (hS : va_S A s.heap H locs) (hA : ∀ q, s.heap.size ≤ q → A q) (hE : cx_E G A s s.heap) (isC : List Nat) (hC : isC.filterMap (fun i => ws[i]?) = wc) (hC2 : isC.map (fun i => ws[i]?) = wc.map some) (hn : va_nd isC = true) : PreV s H "java/lang/String" G.2.1 (cx_Pc G D tys wc H.size (.ref G.2.1 :: As)) As := by
  obtain ⟨cell, h1, h2, h3, -⟩ := hE.2.2.2.1.2.1.kept hS.2.1
  exact ⟨cx_blind, ⟨cell, h1, h2, h3⟩, (cx_pre hK hP hD hS hA hE isC hC hC2 hn).2⟩
def bd_b1 (x : Int32) : Int32 := x - ((x.toUInt32 >>> ((1 : Int32).toUInt32 &&& Int32.toUInt32 31)).toInt32 &&& 1431655765)
def bd_b2 (x : Int32) : Int32 := (x &&& 858993459) + ((x.toUInt32 >>> ((2 : Int32).toUInt32 &&& Int32.toUInt32 31)).toInt32 &&& 858993459)
def bd_b3 (x : Int32) : Int32 := (x + (x.toUInt32 >>> ((4 : Int32).toUInt32 &&& Int32.toUInt32 31)).toInt32) &&& 252645135
def bd_b4 (x : Int32) : Int32 := x + (x.toUInt32 >>> ((8 : Int32).toUInt32 &&& Int32.toUInt32 31)).toInt32
def bd_b5 (x : Int32) : Int32 := x + (x.toUInt32 >>> ((16 : Int32).toUInt32 &&& Int32.toUInt32 31)).toInt32
def bd_bc (x : Int32) : Int32 := bd_b5 (bd_b4 (bd_b3 (bd_b2 (bd_b1 x)))) &&& 63
def bd_part (fS fA fB fN fM fL : Nat → Int32) (cnt k : Nat) (wh : Int32) : Int64 := if wh = 0 then (fS k).toInt64 else if wh = 1 then (fA k).toInt64 else if wh = 2 then (fB k).toInt64 else if wh = 3 then (fN k).toInt64 else if wh = 4 then (fM k).toInt64 else if wh = 5 then (if fL k = 0 then 0 else 1) else if wh = 6 then (bd_bc (bd_cs fL fS fB cnt)).toInt64 else -2
def bd_ltN (k : Nat) : Nat := [70, 84, 80, 82, 83, 67, 76, 86].getD k 0
theorem bd_ltE : ∀ k, k < 8 → bd_lt k = nI (bd_ltN k) := by decide +kernel
theorem bd_ltL : ∀ k, k < 8 → bd_ltN k < 256 := by decide +kernel
theorem bd_ltC : ∀ k, k < 8 → ((bd_lt k &&& 255).toUInt32 % 65536).toInt32 = nI (bd_ltN k) := by decide +kernel
theorem bd_c16 {q : Nat} (h : q < 65536) : ((nI q).toUInt32 % 65536).toInt32 = nI q := by
  rw [pk_char, pk_tn (by omega), Nat.mod_eq_of_lt h]
theorem bd_nc {q : Nat} (h : q < 65536) : vp_nar .char (nI q) = nI q := by rw [vp_nar, (pk_charN h).1]
/-- a row with cs written from n on -/
def bd_app (f : Nat → Int32) (n : Nat) (cs : List Nat) : Nat → Int32 := fun j => if n ≤ j ∧ j < n + cs.length then nI (cs.getD (j - n) 0) else f j
theorem bd_app1 (f : Nat → Int32) (n q : Nat) : upd f n (nI q) = bd_app f n [q] := by
  funext j
  by_cases h : j = n
  · subst h; rw [pk_us]; simp [bd_app]
  · rw [pk_un h]
    have h2 : ¬ (n ≤ j ∧ j < n + 1) := by omega
    simp only [bd_app, List.length_cons, List.length_nil, Nat.zero_add, if_neg h2]
theorem bd_app_app (f : Nat → Int32) (n : Nat) (cs ds : List Nat) : bd_app (bd_app f n cs) (n + cs.length) ds = bd_app f n (cs ++ ds) := by
  funext j
  by_cases h1 : n + cs.length ≤ j ∧ j < n + cs.length + ds.length
  · have h2 : n ≤ j ∧ j < n + (cs ++ ds).length := by rw [List.length_append]; omega
    simp only [bd_app, if_pos h1, if_pos h2]
    rw [List.getD_eq_getElem?_getD, List.getD_eq_getElem?_getD, List.getElem?_append_right (by omega), show j - (n + cs.length) = j - n - cs.length by omega]
  · by_cases h3 : n ≤ j ∧ j < n + cs.length
    · have h2 : n ≤ j ∧ j < n + (cs ++ ds).length := by rw [List.length_append]; omega
      simp only [bd_app, if_neg h1, if_pos h2, if_pos h3]
      rw [List.getD_eq_getElem?_getD, List.getD_eq_getElem?_getD, List.getElem?_append_left (by omega)]
    · have h2 : ¬ (n ≤ j ∧ j < n + (cs ++ ds).length) := by rw [List.length_append]; omega
      simp only [bd_app, if_neg h1, if_neg h2, if_neg h3]
theorem bd_app0 (f : Nat → Int32) (n : Nat) : bd_app f n [] = f := by
  funext j
  have h : ¬ (n ≤ j ∧ j < n + 0) := by omega
  simp only [bd_app, List.length_nil, if_neg h]
theorem bd_tl (n : Nat) (a b : List Nat) : nI (n + a.length + b.length) = nI (n + (a ++ b).length) := by rw [List.length_append, Nat.add_assoc]
def bd_dg (q : Nat) : List Nat := if q < 100 then (if q < 10 then [48 + q % 10] else [48 + q / 10 % 10] ++ [48 + q % 10]) else [48 + q / 100] ++ [48 + q / 10 % 10] ++ [48 + q % 10]
theorem bd_dg3 (q : Nat) : (bd_dg q).length ≤ 3 := by unfold bd_dg; split; split; all_goals simp
theorem bd_dg2 {q : Nat} (h : q < 100) : (bd_dg q).length ≤ 2 := by unfold bd_dg; rw [if_pos h]; split; all_goals simp
/-- a part's text -/
def bd_ptN (x : Int32) : List Nat := if x = -1 then [] else [60] ++ bd_dg x.toNatClampNeg
def bd_pt (k : Nat) (s a b x : Int32) : List Nat := [bd_ltN s.toNatClampNeg] ++ bd_dg k ++ [40] ++ bd_dg a.toNatClampNeg ++ [44] ++ bd_dg b.toNatClampNeg ++ [41] ++ bd_ptN x ++ [59]
def bd_ok (s a b x : Int32) : Prop := (∃ m, m < 8 ∧ s = nI m) ∧ (∃ m, m < 1000 ∧ a = nI m) ∧ (∃ m, m < 1000 ∧ b = nI m) ∧ (x = -1 ∨ ∃ m, m < 100 ∧ x = nI m)
theorem bd_pt_len {k : Nat} {s a b x : Int32} (hk : k < 100) (h : bd_ok s a b x) : (bd_pt k s a b x).length ≤ 16 := by
  obtain ⟨-, -, -, h⟩ := h
  have h1 := bd_dg2 hk
  have h2 := bd_dg3 a.toNatClampNeg
  have h3 := bd_dg3 b.toNatClampNeg
  have h4 : (bd_ptN x).length ≤ 3 := by
    rcases h with h | ⟨m, hm, h⟩
    · rw [bd_ptN, if_pos h]; exact Nat.zero_le _
    · unfold bd_ptN
      split
      · exact Nat.zero_le _
      · have := bd_dg2 hm
        rw [h, nI_clamp (by omega), List.length_append]
        simp only [List.length_cons, List.length_nil]
        omega
  simp only [bd_pt, List.length_append, List.length_cons, List.length_nil]
  omega
def bd_tx (fS fA fB fN fL : Nat → Int32) : Nat → List Nat
  | 0 => []
  | i + 1 => if fL i = 0 then bd_tx fS fA fB fN fL i else bd_tx fS fA fB fN fL i ++ bd_pt i (fS i) (fA i) (fB i) (fN i)
theorem bd_tx_len {fS fA fB fN fL : Nat → Int32} : ∀ {n : Nat}, n ≤ 62 → (∀ j, j < n → bd_ok (fS j) (fA j) (fB j) (fN j)) → (bd_tx fS fA fB fN fL n).length ≤ 16 * n := by
  intro n
  induction n with
  | zero => intro _ _; exact Nat.zero_le _
  | succ n ih =>
    intro hn h
    have h1 := ih (by omega) (fun j hj => h j (by omega))
    have h2 := bd_pt_len (k := n) (by omega) (h n (by omega))
    rw [bd_tx]
    split
    · omega
    · rw [List.length_append]; omega
/-- sign i of a text -/
def bd_ch (L : List Nat) (i : Int32) : Int32 := if i < 0 then -1 else if nI L.length ≤ i then -1 else nI (L.getD i.toNatClampNeg 0)
set_option maxHeartbeats 4000000 in
set_option maxRecDepth 100000 in
theorem c_I_bitCount (l : Launch) (G : cx_G) (D : va_G) (K : cx_KT) (sz : Nat) (x : Int32)  : Met l y_I_bitCount w_I_bitCount ({ frames := 0, cells := 0, slots := 0, locals := 0 }) (cx_Pc G D (cx_ty K) [] sz [.int x]) (cx_Qi (bd_bc x) D (cx_ty K) [] (va_A [] sz)) 0 0 (va_A [] sz) := by
  refine Met.ofW (cc := prog_5_method_49_code) (maxL := 1) (ret := (some .int)) (by decide) rfl ?_
  intro p e s m args below meth c s₁ B hml hv
  obtain ⟨rfl, hsz, hP, hK, hD0, hE⟩ := hv
  have hx := B.exec
  have hb := B.bytes
  have hr := B.returns
  have hts := atoms_spec (ws := w_I_bitCount) B.pre
  have hw : ∀ w ∈ cw, w.before _ s = true := fun w h => hts w (List.mem_cons_of_mem _ h)
  have hown : s.vm.findClass "java/lang/Integer" = some m.cls := findClass_of_methodNamed B.named
  have hlocks := B.notSynchronized
  subst hsz
  have hD := hD0.self (sz := s.heap.size)
  generalize hAe : va_A [] s.heap.size = A at hD hE ⊢
  have hA : ∀ q : Nat, s.heap.size ≤ q → A q := fun q h => by rw [← hAe]; exact Or.inr h
  have hS : va_S A s.heap s.heap [] := va_S.rf
  have hl := lv_entry ([.int x]) (n := 1) (Nat.le_of_ble_eq_true rfl)
  rw [lg_entry_eq]
  generalize (lg_sl ([.int x]) ++ List.replicate (1 - (lg_sl ([.int x])).length) Slot.unset).toArray = ls at hl ⊢
  have hl : lv_has ls 1 [(0, .int x)] := hl
  refine lv_iload_n hx hb d_I_bitCount_0 rfl (lv_at hl 0 rfl) ?_
  refine lv_iload_n hx hb d_I_bitCount_1 rfl (lv_at hl 0 rfl) ?_
  refine lv_iconst (v := 1) hx hb d_I_bitCount_2 (by decide) ?_
  refine lv_iushr (v := (x.toUInt32 >>> ((1 : Int32).toUInt32 &&& Int32.toUInt32 31)).toInt32) hx hb d_I_bitCount_3 (rfl) ?_
  refine lv_ldcw (v := 1431655765) hx hb hown (hw _ k_165) d_I_bitCount_4 ?_
  refine lv_iand hx hb d_I_bitCount_7 ?_
  refine lv_isub hx hb d_I_bitCount_8 ?_
  refine cx_ti (y := bd_b1 x) (rfl) ?_
  refine lv_istore_n (lv' := [(0, .int (bd_b1 x))]) hx hb d_I_bitCount_9 rfl hl (by decide) rfl (fun ls hl => ?_)
  refine lv_iload_n hx hb d_I_bitCount_10 rfl (lv_at hl 0 rfl) ?_
  refine lv_ldcw (v := 858993459) hx hb hown (hw _ k_166) d_I_bitCount_11 ?_
  refine lv_iand hx hb d_I_bitCount_14 ?_
  refine lv_iload_n hx hb d_I_bitCount_15 rfl (lv_at hl 0 rfl) ?_
  refine lv_iconst (v := 2) hx hb d_I_bitCount_16 (by decide) ?_
  refine lv_iushr (v := ((bd_b1 x).toUInt32 >>> ((2 : Int32).toUInt32 &&& Int32.toUInt32 31)).toInt32) hx hb d_I_bitCount_17 (rfl) ?_
  refine lv_ldcw (v := 858993459) hx hb hown (hw _ k_166) d_I_bitCount_18 ?_
  refine lv_iand hx hb d_I_bitCount_21 ?_
  refine lv_iadd hx hb d_I_bitCount_22 ?_
  refine cx_ti (y := bd_b2 (bd_b1 x)) (rfl) ?_
  refine lv_istore_n (lv' := [(0, .int (bd_b2 (bd_b1 x)))]) hx hb d_I_bitCount_23 rfl hl (by decide) rfl (fun ls hl => ?_)
  refine lv_iload_n hx hb d_I_bitCount_24 rfl (lv_at hl 0 rfl) ?_
  refine lv_iload_n hx hb d_I_bitCount_25 rfl (lv_at hl 0 rfl) ?_
  refine lv_iconst (v := 4) hx hb d_I_bitCount_26 (by decide) ?_
  refine lv_iushr (v := ((bd_b2 (bd_b1 x)).toUInt32 >>> ((4 : Int32).toUInt32 &&& Int32.toUInt32 31)).toInt32) hx hb d_I_bitCount_27 (rfl) ?_
  refine lv_iadd hx hb d_I_bitCount_28 ?_
  refine lv_ldcw (v := 252645135) hx hb hown (hw _ k_167) d_I_bitCount_29 ?_
  refine lv_iand hx hb d_I_bitCount_32 ?_
  refine cx_ti (y := bd_b3 (bd_b2 (bd_b1 x))) (rfl) ?_
  refine lv_istore_n (lv' := [(0, .int (bd_b3 (bd_b2 (bd_b1 x))))]) hx hb d_I_bitCount_33 rfl hl (by decide) rfl (fun ls hl => ?_)
  refine lv_iload_n hx hb d_I_bitCount_34 rfl (lv_at hl 0 rfl) ?_
  refine lv_iload_n hx hb d_I_bitCount_35 rfl (lv_at hl 0 rfl) ?_
  refine lv_bipush (v := 8) hx hb d_I_bitCount_36 (by decide) ?_
  refine lv_iushr (v := ((bd_b3 (bd_b2 (bd_b1 x))).toUInt32 >>> ((8 : Int32).toUInt32 &&& Int32.toUInt32 31)).toInt32) hx hb d_I_bitCount_38 (rfl) ?_
  refine lv_iadd hx hb d_I_bitCount_39 ?_
  refine cx_ti (y := bd_b4 (bd_b3 (bd_b2 (bd_b1 x)))) (rfl) ?_
  refine lv_istore_n (lv' := [(0, .int (bd_b4 (bd_b3 (bd_b2 (bd_b1 x)))))]) hx hb d_I_bitCount_40 rfl hl (by decide) rfl (fun ls hl => ?_)
  refine lv_iload_n hx hb d_I_bitCount_41 rfl (lv_at hl 0 rfl) ?_
  refine lv_iload_n hx hb d_I_bitCount_42 rfl (lv_at hl 0 rfl) ?_
  refine lv_bipush (v := 16) hx hb d_I_bitCount_43 (by decide) ?_
  refine lv_iushr (v := ((bd_b4 (bd_b3 (bd_b2 (bd_b1 x)))).toUInt32 >>> ((16 : Int32).toUInt32 &&& Int32.toUInt32 31)).toInt32) hx hb d_I_bitCount_45 (rfl) ?_
  refine lv_iadd hx hb d_I_bitCount_46 ?_
  refine cx_ti (y := bd_b5 (bd_b4 (bd_b3 (bd_b2 (bd_b1 x))))) (rfl) ?_
  refine lv_istore_n (lv' := [(0, .int (bd_b5 (bd_b4 (bd_b3 (bd_b2 (bd_b1 x))))))]) hx hb d_I_bitCount_47 rfl hl (by decide) rfl (fun ls hl => ?_)
  refine lv_iload_n hx hb d_I_bitCount_48 rfl (lv_at hl 0 rfl) ?_
  refine lv_bipush (v := 63) hx hb d_I_bitCount_49 (by decide) ?_
  refine lv_iand hx hb d_I_bitCount_51 ?_
  exact cx_iret hx hb hr hlocks hK hP hD hS d_I_bitCount_52 (rfl) (rfl)
set_option maxHeartbeats 4000000 in
set_option maxRecDepth 100000 in
theorem c_B_part (l : Launch) (G : cx_G) (D : va_G) (K : cx_KT) (sz : Nat) (h0 : Nat) (seed : Int64) (hM : Nat) (hO : Nat) (cnt : Nat) (aS : Nat) (aA : Nat) (aB : Nat) (aN : Nat) (aM : Nat) (aL : Nat) (vb : Int32) (vs : Int32) (aT : Nat) (tl : Int32) (fS : Nat → Int32) (fA : Nat → Int32) (fB : Nat → Int32) (fN : Nat → Int32) (fM : Nat → Int32) (fL : Nat → Int32) (k : Nat) (wh : Int32) (hcnt : cnt ≤ 62) (hk : k < cnt) : Met l y_B_part w_B_part ({ frames := 1, cells := 0, slots := 0, locals := 22 }) (cx_Pc G D (cx_ty K) [(h0, .inr (1, [.long seed, .ref hM, .ref hO, .int (nI cnt), .ref aS, .ref aA, .ref aB, .ref aN, .ref aM, .ref aL, .int vb, .int vs, .ref aT, .int tl])), (aS, .inl (K.1, 62, .inl fS)), (aA, .inl (K.1, 62, .inl fA)), (aB, .inl (K.1, 62, .inl fB)), (aN, .inl (K.1, 62, .inl fN)), (aM, .inl (K.1, 62, .inl fM)), (aL, .inl (K.2.1, 62, .inl fL))] sz [.ref h0, .int (nI k), .int wh]) (cx_Ql (bd_part fS fA fB fN fM fL cnt k wh) D (cx_ty K) [(h0, .inr (1, [.long seed, .ref hM, .ref hO, .int (nI cnt), .ref aS, .ref aA, .ref aB, .ref aN, .ref aM, .ref aL, .int vb, .int vs, .ref aT, .int tl])), (aS, .inl (K.1, 62, .inl fS)), (aA, .inl (K.1, 62, .inl fA)), (aB, .inl (K.1, 62, .inl fB)), (aN, .inl (K.1, 62, .inl fN)), (aM, .inl (K.1, 62, .inl fM)), (aL, .inl (K.2.1, 62, .inl fL))] (va_A [(h0, .inr (1, [.long seed, .ref hM, .ref hO, .int (nI cnt), .ref aS, .ref aA, .ref aB, .ref aN, .ref aM, .ref aL, .int vb, .int vs, .ref aT, .int tl])), (aS, .inl (K.1, 62, .inl fS)), (aA, .inl (K.1, 62, .inl fA)), (aB, .inl (K.1, 62, .inl fB)), (aN, .inl (K.1, 62, .inl fN)), (aM, .inl (K.1, 62, .inl fM)), (aL, .inl (K.2.1, 62, .inl fL))] sz)) 0 0 (va_A [(h0, .inr (1, [.long seed, .ref hM, .ref hO, .int (nI cnt), .ref aS, .ref aA, .ref aB, .ref aN, .ref aM, .ref aL, .int vb, .int vs, .ref aT, .int tl])), (aS, .inl (K.1, 62, .inl fS)), (aA, .inl (K.1, 62, .inl fA)), (aB, .inl (K.1, 62, .inl fB)), (aN, .inl (K.1, 62, .inl fN)), (aM, .inl (K.1, 62, .inl fM)), (aL, .inl (K.2.1, 62, .inl fL))] sz) := by
  refine Met.ofW (cc := prog_1_method_3_code) (maxL := 3) (ret := (some .long)) (by decide) rfl ?_
  intro p e s m args below meth c s₁ B hml hv
  obtain ⟨rfl, hsz, hP, hK, hD0, hE⟩ := hv
  have hx := B.exec
  have hb := B.bytes
  have hr := B.returns
  have hts := atoms_spec (ws := w_B_part) B.pre
  have hw : ∀ w ∈ cw, w.before _ s = true := fun w h => hts w (List.mem_cons_of_mem _ h)
  have hown : s.vm.findClass "BuildDrawer" = some m.cls := findClass_of_methodNamed B.named
  have hlocks := B.notSynchronized
  subst hsz
  have hD := hD0.self (sz := s.heap.size)
  generalize hAe : va_A [(h0, .inr (1, [.long seed, .ref hM, .ref hO, .int (nI cnt), .ref aS, .ref aA, .ref aB, .ref aN, .ref aM, .ref aL, .int vb, .int vs, .ref aT, .int tl])), (aS, .inl (K.1, 62, .inl fS)), (aA, .inl (K.1, 62, .inl fA)), (aB, .inl (K.1, 62, .inl fB)), (aN, .inl (K.1, 62, .inl fN)), (aM, .inl (K.1, 62, .inl fM)), (aL, .inl (K.2.1, 62, .inl fL))] s.heap.size = A at hD hE ⊢
  have hA : ∀ q : Nat, s.heap.size ≤ q → A q := fun q h => by rw [← hAe]; exact Or.inr h
  have hS : va_S A s.heap s.heap [] := va_S.rf
  have hl := lv_entry ([.ref h0, .int (nI k), .int wh]) (n := 3) (Nat.le_of_ble_eq_true rfl)
  rw [lg_entry_eq]
  generalize (lg_sl ([.ref h0, .int (nI k), .int wh]) ++ List.replicate (3 - (lg_sl ([.ref h0, .int (nI k), .int wh])).length) Slot.unset).toArray = ls at hl ⊢
  have hl : lv_has ls 3 [(0, .ref h0), (1, .int (nI k)), (2, .int wh)] := hl
  refine lv_aload_n hx hb d_B_part_0 rfl (lv_at hl 0 rfl) ?_
  refine lv_iload_n hx hb d_B_part_1 rfl (lv_at hl 1 rfl) ?_
  refine cx_ci (wr := [(aS, .inl (K.1, 62, .inl fS)), (aA, .inl (K.1, 62, .inl fA)), (aB, .inl (K.1, 62, .inl fB)), (aN, .inl (K.1, 62, .inl fN)), (aM, .inl (K.1, 62, .inl fM)), (aL, .inl (K.2.1, 62, .inl fL))]) (wN := [(h0, .inr (1, [.long seed, .ref hM, .ref hO, .int (nI cnt), .ref aS, .ref aA, .ref aB, .ref aN, .ref aM, .ref aL, .int vb, .int vs, .ref aT, .int tl])), (aS, .inl (K.1, 62, .inl fS)), (aA, .inl (K.1, 62, .inl fA)), (aB, .inl (K.1, 62, .inl fB)), (aN, .inl (K.1, 62, .inl fN)), (aM, .inl (K.1, 62, .inl fM)), (aL, .inl (K.2.1, 62, .inl fL))]) (va_runV (As := [.int (nI k)]) (rest := []) ⟨hx, hb, hml, hown, hw⟩ (c_B_isPart l G D K s.heap.size h0 seed hM hO cnt aS aA aB aN aM aL vb vs aT tl (nI k)) (cwV 1 hw (cx_gV k_153 k_155 ks_B_isPart k_1 k_156) rfl rfl rfl (by decide +kernel) ⟨Nat.le_of_ble_eq_true rfl, Nat.le_of_ble_eq_true rfl⟩) (cx_preV (q0 := 0) (ci := 1) hK hP hD hS hA hE rfl rfl [0] rfl rfl (by decide)) rfl rfl hl.1 rfl (lv_room (Nat.le_of_ble_eq_true rfl)) d_B_part_2 ⟨Nat.le_of_ble_eq_true rfl, Nat.le_of_ble_eq_true rfl⟩) hP hD hS hA [0] [1, 2, 3, 4, 5, 6] rfl rfl (by decide) (by decide) [6, 0, 1, 2, 3, 4, 5] rfl rfl (by decide) (fun H locs hP hD hS => ?_)
  refine cx_ti (y := 1) (bd_ip_in hcnt hk) ?_
  refine lv_if_ne (tgt := 12) hx hb d_B_part_5 (by decide) (fun r_5 => ?_) (fun r_5 => ?_)
  · have c_5 := r_5
    refine lv_iload_n hx hb d_B_part_12 rfl (lv_at hl 2 rfl) ?_
    by_cases z_0 : wh = 0
    · refine lv_tableIn (tgt := 56) (off := 43) hx hb d_B_part_13 (by rw [z_0]; decide) (by rw [z_0]; decide) (by rw [z_0]; rfl) (by decide) ?_
      refine lv_aload_n hx hb d_B_part_56 rfl (lv_at hl 0 rfl) ?_
      refine va_get (D := D) (ci := 1) (v := .ref aS) (C := "BuildDrawer") (T := TB) (N := 14) hx hb hw inB hown hK hP 0 rfl rfl 4 (by decide) (hw _ k_60) (fun _ h9 => h9) rfl d_B_part_57 ?_
      refine lv_iload_n hx hb d_B_part_60 rfl (lv_at hl 1 rfl) ?_
      refine va_iald hx hb hK hP 1 0 rfl rfl (vp_in_nI (n := k) (by omega) (by omega)) d_B_part_61 ?_
      refine cx_ti (y := fS k) (by rw [nI_clamp (by omega)]) ?_
      refine lv_i2l (v := (fS k).toInt64) hx hb d_B_part_62 (rfl) ?_
      exact cx_lret hx hb hr hlocks hK hP hD hS d_B_part_63 (by simp only [bd_part, if_pos z_0]) (rfl)
    by_cases z_1 : wh = 1
    · refine lv_tableIn (tgt := 64) (off := 51) hx hb d_B_part_13 (by rw [z_1]; decide) (by rw [z_1]; decide) (by rw [z_1]; rfl) (by decide) ?_
      refine lv_aload_n hx hb d_B_part_64 rfl (lv_at hl 0 rfl) ?_
      refine va_get (D := D) (ci := 1) (v := .ref aA) (C := "BuildDrawer") (T := TB) (N := 14) hx hb hw inB hown hK hP 0 rfl rfl 5 (by decide) (hw _ k_61) (fun _ h9 => h9) rfl d_B_part_65 ?_
      refine lv_iload_n hx hb d_B_part_68 rfl (lv_at hl 1 rfl) ?_
      refine va_iald hx hb hK hP 2 0 rfl rfl (vp_in_nI (n := k) (by omega) (by omega)) d_B_part_69 ?_
      refine cx_ti (y := fA k) (by rw [nI_clamp (by omega)]) ?_
      refine lv_i2l (v := (fA k).toInt64) hx hb d_B_part_70 (rfl) ?_
      exact cx_lret hx hb hr hlocks hK hP hD hS d_B_part_71 (by simp only [bd_part, if_neg z_0, if_pos z_1]) (rfl)
    by_cases z_2 : wh = 2
    · refine lv_tableIn (tgt := 72) (off := 59) hx hb d_B_part_13 (by rw [z_2]; decide) (by rw [z_2]; decide) (by rw [z_2]; rfl) (by decide) ?_
      refine lv_aload_n hx hb d_B_part_72 rfl (lv_at hl 0 rfl) ?_
      refine va_get (D := D) (ci := 1) (v := .ref aB) (C := "BuildDrawer") (T := TB) (N := 14) hx hb hw inB hown hK hP 0 rfl rfl 6 (by decide) (hw _ k_62) (fun _ h9 => h9) rfl d_B_part_73 ?_
      refine lv_iload_n hx hb d_B_part_76 rfl (lv_at hl 1 rfl) ?_
      refine va_iald hx hb hK hP 3 0 rfl rfl (vp_in_nI (n := k) (by omega) (by omega)) d_B_part_77 ?_
      refine cx_ti (y := fB k) (by rw [nI_clamp (by omega)]) ?_
      refine lv_i2l (v := (fB k).toInt64) hx hb d_B_part_78 (rfl) ?_
      exact cx_lret hx hb hr hlocks hK hP hD hS d_B_part_79 (by simp only [bd_part, if_neg z_0, if_neg z_1, if_pos z_2]) (rfl)
    by_cases z_3 : wh = 3
    · refine lv_tableIn (tgt := 80) (off := 67) hx hb d_B_part_13 (by rw [z_3]; decide) (by rw [z_3]; decide) (by rw [z_3]; rfl) (by decide) ?_
      refine lv_aload_n hx hb d_B_part_80 rfl (lv_at hl 0 rfl) ?_
      refine va_get (D := D) (ci := 1) (v := .ref aN) (C := "BuildDrawer") (T := TB) (N := 14) hx hb hw inB hown hK hP 0 rfl rfl 7 (by decide) (hw _ k_63) (fun _ h9 => h9) rfl d_B_part_81 ?_
      refine lv_iload_n hx hb d_B_part_84 rfl (lv_at hl 1 rfl) ?_
      refine va_iald hx hb hK hP 4 0 rfl rfl (vp_in_nI (n := k) (by omega) (by omega)) d_B_part_85 ?_
      refine cx_ti (y := fN k) (by rw [nI_clamp (by omega)]) ?_
      refine lv_i2l (v := (fN k).toInt64) hx hb d_B_part_86 (rfl) ?_
      exact cx_lret hx hb hr hlocks hK hP hD hS d_B_part_87 (by simp only [bd_part, if_neg z_0, if_neg z_1, if_neg z_2, if_pos z_3]) (rfl)
    by_cases z_4 : wh = 4
    · refine lv_tableIn (tgt := 88) (off := 75) hx hb d_B_part_13 (by rw [z_4]; decide) (by rw [z_4]; decide) (by rw [z_4]; rfl) (by decide) ?_
      refine lv_aload_n hx hb d_B_part_88 rfl (lv_at hl 0 rfl) ?_
      refine va_get (D := D) (ci := 1) (v := .ref aM) (C := "BuildDrawer") (T := TB) (N := 14) hx hb hw inB hown hK hP 0 rfl rfl 8 (by decide) (hw _ k_64) (fun _ h9 => h9) rfl d_B_part_89 ?_
      refine lv_iload_n hx hb d_B_part_92 rfl (lv_at hl 1 rfl) ?_
      refine va_iald hx hb hK hP 5 0 rfl rfl (vp_in_nI (n := k) (by omega) (by omega)) d_B_part_93 ?_
      refine cx_ti (y := fM k) (by rw [nI_clamp (by omega)]) ?_
      refine lv_i2l (v := (fM k).toInt64) hx hb d_B_part_94 (rfl) ?_
      exact cx_lret hx hb hr hlocks hK hP hD hS d_B_part_95 (by simp only [bd_part, if_neg z_0, if_neg z_1, if_neg z_2, if_neg z_3, if_pos z_4]) (rfl)
    by_cases z_5 : wh = 5
    · refine lv_tableIn (tgt := 96) (off := 83) hx hb d_B_part_13 (by rw [z_5]; decide) (by rw [z_5]; decide) (by rw [z_5]; rfl) (by decide) ?_
      refine lv_aload_n hx hb d_B_part_96 rfl (lv_at hl 0 rfl) ?_
      refine va_get (D := D) (ci := 1) (v := .ref aL) (C := "BuildDrawer") (T := TB) (N := 14) hx hb hw inB hown hK hP 0 rfl rfl 9 (by decide) (hw _ k_65) (fun _ h9 => h9) rfl d_B_part_97 ?_
      refine lv_iload_n hx hb d_B_part_100 rfl (lv_at hl 1 rfl) ?_
      refine va_zald hx hb hK hP 6 1 rfl rfl (vp_in_nI (n := k) (by omega) (by omega)) d_B_part_101 ?_
      refine cx_ti (y := fL k) (by rw [nI_clamp (by omega)]) ?_
      refine lv_if_eq (tgt := 109) hx hb d_B_part_102 (by decide) (fun r_102 => ?_) (fun r_102 => ?_)
      · have c_102 := r_102
        refine lv_lconst (v := 0) hx hb d_B_part_109 (by decide) ?_
        exact cx_lret hx hb hr hlocks hK hP hD hS d_B_part_110 (by simp only [bd_part, if_neg z_0, if_neg z_1, if_neg z_2, if_neg z_3, if_neg z_4, if_pos z_5, if_pos r_102]) (rfl)
      · have c_102 := r_102
        refine lv_lconst (v := 1) hx hb d_B_part_105 (by decide) ?_
        refine lv_goto (tgt := 110) hx hb d_B_part_106 (by decide) ?_
        exact cx_lret hx hb hr hlocks hK hP hD hS d_B_part_110 (by simp only [bd_part, if_neg z_0, if_neg z_1, if_neg z_2, if_neg z_3, if_neg z_4, if_pos z_5, if_neg r_102]) (rfl)
    by_cases z_6 : wh = 6
    · refine lv_tableIn (tgt := 111) (off := 98) hx hb d_B_part_13 (by rw [z_6]; decide) (by rw [z_6]; decide) (by rw [z_6]; rfl) (by decide) ?_
      refine lv_aload_n hx hb d_B_part_111 rfl (lv_at hl 0 rfl) ?_
      refine cx_ci (wr := [(aA, .inl (K.1, 62, .inl fA)), (aN, .inl (K.1, 62, .inl fN)), (aM, .inl (K.1, 62, .inl fM))]) (wN := [(h0, .inr (1, [.long seed, .ref hM, .ref hO, .int (nI cnt), .ref aS, .ref aA, .ref aB, .ref aN, .ref aM, .ref aL, .int vb, .int vs, .ref aT, .int tl])), (aS, .inl (K.1, 62, .inl fS)), (aA, .inl (K.1, 62, .inl fA)), (aB, .inl (K.1, 62, .inl fB)), (aN, .inl (K.1, 62, .inl fN)), (aM, .inl (K.1, 62, .inl fM)), (aL, .inl (K.2.1, 62, .inl fL))]) (va_runV (As := []) (rest := []) ⟨hx, hb, hml, hown, hw⟩ (c_B_commonSet l G D K H.size h0 seed hM hO cnt aS aA aB aN aM aL vb vs aT tl fL fS fB (by omega)) (cwV 0 hw (cx_gV k_158 k_160 ks_B_commonSet k_1 k_161) rfl rfl rfl (by decide +kernel) ⟨Nat.le_of_ble_eq_true rfl, Nat.le_of_ble_eq_true rfl⟩) (cx_preV (q0 := 0) (ci := 1) hK hP hD hS hA hE rfl rfl [0, 6, 1, 3] rfl rfl (by decide)) rfl rfl hl.1 rfl (lv_room (Nat.le_of_ble_eq_true rfl)) d_B_part_112 ⟨Nat.le_of_ble_eq_true rfl, Nat.le_of_ble_eq_true rfl⟩) hP hD hS hA [0, 6, 1, 3] [2, 4, 5] rfl rfl (by decide) (by decide) [3, 5, 0, 6, 1, 2, 4] rfl rfl (by decide) (fun H locs hP hD hS => ?_)
      refine cx_ci (wr := [(h0, .inr (1, [.long seed, .ref hM, .ref hO, .int (nI cnt), .ref aS, .ref aA, .ref aB, .ref aN, .ref aM, .ref aL, .int vb, .int vs, .ref aT, .int tl])), (aS, .inl (K.1, 62, .inl fS)), (aA, .inl (K.1, 62, .inl fA)), (aB, .inl (K.1, 62, .inl fB)), (aN, .inl (K.1, 62, .inl fN)), (aM, .inl (K.1, 62, .inl fM)), (aL, .inl (K.2.1, 62, .inl fL))]) (wN := [(h0, .inr (1, [.long seed, .ref hM, .ref hO, .int (nI cnt), .ref aS, .ref aA, .ref aB, .ref aN, .ref aM, .ref aL, .int vb, .int vs, .ref aT, .int tl])), (aS, .inl (K.1, 62, .inl fS)), (aA, .inl (K.1, 62, .inl fA)), (aB, .inl (K.1, 62, .inl fB)), (aN, .inl (K.1, 62, .inl fN)), (aM, .inl (K.1, 62, .inl fM)), (aL, .inl (K.2.1, 62, .inl fL))]) (va_runS (As := [.int (bd_cs fL fS fB cnt)]) (rest := []) ⟨hx, hb, hml, hown, hw⟩ (c_I_bitCount l G D K H.size (bd_cs fL fS fB cnt)) (va_cwS 1 hw (cx_gS k_162 k_163 k_4 k_164) rfl rfl rfl (by decide +kernel) ⟨Nat.le_of_ble_eq_true rfl, Nat.le_of_ble_eq_true rfl⟩) (cx_pre hK hP hD hS hA hE [] rfl rfl (by decide)) rfl rfl hl.1 rfl (lv_room (Nat.le_of_ble_eq_true rfl)) d_B_part_115 ⟨Nat.le_of_ble_eq_true rfl, Nat.le_of_ble_eq_true rfl⟩) hP hD hS hA [] [0, 1, 2, 3, 4, 5, 6] rfl rfl (by decide) (by decide) [0, 1, 2, 3, 4, 5, 6] rfl rfl (by decide) (fun H locs hP hD hS => ?_)
      refine lv_i2l (v := (bd_bc (bd_cs fL fS fB cnt)).toInt64) hx hb d_B_part_118 (rfl) ?_
      exact cx_lret hx hb hr hlocks hK hP hD hS d_B_part_119 (by simp only [bd_part, if_neg z_0, if_neg z_1, if_neg z_2, if_neg z_3, if_neg z_4, if_neg z_5, if_pos z_6]) (rfl)
    refine lv_tableOut (tgt := 120) hx hb d_B_part_13 (cx_out7 z_0 z_1 z_2 z_3 z_4 z_5 z_6) (by decide) ?_
    refine lv_ldc2 (v := (-2)) hx hb hown (hw _ k_168) d_B_part_120 ?_
    exact cx_lret hx hb hr hlocks hK hP hD hS d_B_part_123 (by simp only [bd_part, if_neg z_0, if_neg z_1, if_neg z_2, if_neg z_3, if_neg z_4, if_neg z_5, if_neg z_6]) (rfl)
  · have c_5 := r_5
    exact absurd r_5 (by decide)
set_option maxHeartbeats 4000000 in
set_option maxRecDepth 100000 in
theorem c_B_partN (l : Launch) (G : cx_G) (D : va_G) (K : cx_KT) (sz : Nat) (h0 : Nat) (seed : Int64) (hM : Nat) (hO : Nat) (cnt : Nat) (aS : Nat) (aA : Nat) (aB : Nat) (aN : Nat) (aM : Nat) (aL : Nat) (vb : Int32) (vs : Int32) (aT : Nat) (tl : Int32) (i : Int32) (wh : Int32) (hno : bd_ip cnt i = 0) : Met l y_B_part w_B_part ({ frames := 1, cells := 0, slots := 0, locals := 21 }) (cx_Pc G D (cx_ty K) [(h0, .inr (1, [.long seed, .ref hM, .ref hO, .int (nI cnt), .ref aS, .ref aA, .ref aB, .ref aN, .ref aM, .ref aL, .int vb, .int vs, .ref aT, .int tl]))] sz [.ref h0, .int i, .int wh]) (cx_Ql (-1) D (cx_ty K) [(h0, .inr (1, [.long seed, .ref hM, .ref hO, .int (nI cnt), .ref aS, .ref aA, .ref aB, .ref aN, .ref aM, .ref aL, .int vb, .int vs, .ref aT, .int tl]))] (va_A [(h0, .inr (1, [.long seed, .ref hM, .ref hO, .int (nI cnt), .ref aS, .ref aA, .ref aB, .ref aN, .ref aM, .ref aL, .int vb, .int vs, .ref aT, .int tl]))] sz)) 0 0 (va_A [(h0, .inr (1, [.long seed, .ref hM, .ref hO, .int (nI cnt), .ref aS, .ref aA, .ref aB, .ref aN, .ref aM, .ref aL, .int vb, .int vs, .ref aT, .int tl]))] sz) := by
  refine Met.ofW (cc := prog_1_method_3_code) (maxL := 3) (ret := (some .long)) (by decide) rfl ?_
  intro p e s m args below meth c s₁ B hml hv
  obtain ⟨rfl, hsz, hP, hK, hD0, hE⟩ := hv
  have hx := B.exec
  have hb := B.bytes
  have hr := B.returns
  have hts := atoms_spec (ws := w_B_part) B.pre
  have hw : ∀ w ∈ cw, w.before _ s = true := fun w h => hts w (List.mem_cons_of_mem _ h)
  have hown : s.vm.findClass "BuildDrawer" = some m.cls := findClass_of_methodNamed B.named
  have hlocks := B.notSynchronized
  subst hsz
  have hD := hD0.self (sz := s.heap.size)
  generalize hAe : va_A [(h0, .inr (1, [.long seed, .ref hM, .ref hO, .int (nI cnt), .ref aS, .ref aA, .ref aB, .ref aN, .ref aM, .ref aL, .int vb, .int vs, .ref aT, .int tl]))] s.heap.size = A at hD hE ⊢
  have hA : ∀ q : Nat, s.heap.size ≤ q → A q := fun q h => by rw [← hAe]; exact Or.inr h
  have hS : va_S A s.heap s.heap [] := va_S.rf
  have hl := lv_entry ([.ref h0, .int i, .int wh]) (n := 3) (Nat.le_of_ble_eq_true rfl)
  rw [lg_entry_eq]
  generalize (lg_sl ([.ref h0, .int i, .int wh]) ++ List.replicate (3 - (lg_sl ([.ref h0, .int i, .int wh])).length) Slot.unset).toArray = ls at hl ⊢
  have hl : lv_has ls 3 [(0, .ref h0), (1, .int i), (2, .int wh)] := hl
  refine lv_aload_n hx hb d_B_part_0 rfl (lv_at hl 0 rfl) ?_
  refine lv_iload_n hx hb d_B_part_1 rfl (lv_at hl 1 rfl) ?_
  refine cx_ci (wr := []) (wN := [(h0, .inr (1, [.long seed, .ref hM, .ref hO, .int (nI cnt), .ref aS, .ref aA, .ref aB, .ref aN, .ref aM, .ref aL, .int vb, .int vs, .ref aT, .int tl]))]) (va_runV (As := [.int i]) (rest := []) ⟨hx, hb, hml, hown, hw⟩ (c_B_isPart l G D K s.heap.size h0 seed hM hO cnt aS aA aB aN aM aL vb vs aT tl i) (cwV 1 hw (cx_gV k_153 k_155 ks_B_isPart k_1 k_156) rfl rfl rfl (by decide +kernel) ⟨Nat.le_of_ble_eq_true rfl, Nat.le_of_ble_eq_true rfl⟩) (cx_preV (q0 := 0) (ci := 1) hK hP hD hS hA hE rfl rfl [0] rfl rfl (by decide)) rfl rfl hl.1 rfl (lv_room (Nat.le_of_ble_eq_true rfl)) d_B_part_2 ⟨Nat.le_of_ble_eq_true rfl, Nat.le_of_ble_eq_true rfl⟩) hP hD hS hA [0] [] rfl rfl (by decide) (by decide) [0] rfl rfl (by decide) (fun H locs hP hD hS => ?_)
  refine lv_if_ne (tgt := 12) hx hb d_B_part_5 (by decide) (fun r_5 => ?_) (fun r_5 => ?_)
  · have c_5 := r_5
    exact absurd hno r_5
  · have c_5 := r_5
    refine lv_ldc2 (v := (-1)) hx hb hown (hw _ k_157) d_B_part_8 ?_
    exact cx_lret hx hb hr hlocks hK hP hD hS d_B_part_11 (rfl) (rfl)
set_option maxHeartbeats 4000000 in
set_option maxRecDepth 100000 in
theorem c_P_checkIndexA (l : Launch) (G : cx_G) (D : va_G) (K : cx_KT) (sz : Nat) (k : Nat) (n : Nat) (hk : k < n) (hn : n < 100) : Met l y_P_checkIndex w_P_checkIndex ({ frames := 0, cells := 0, slots := 0, locals := 0 }) (cx_Pc G D (cx_ty K) [] sz [.int (nI k), .int (nI n), .null]) (cx_Qi (nI k) D (cx_ty K) [] (va_A [] sz)) 0 0 (va_A [] sz) := by
  refine Met.ofW (cc := prog_9_method_11_code) (maxL := 3) (ret := (some .int)) (by decide) rfl ?_
  intro p e s m args below meth c s₁ B hml hv
  obtain ⟨rfl, hsz, hP, hK, hD0, hE⟩ := hv
  have hx := B.exec
  have hb := B.bytes
  have hr := B.returns
  have hts := atoms_spec (ws := w_P_checkIndex) B.pre
  have hw : ∀ w ∈ cw, w.before _ s = true := fun w h => hts w (List.mem_cons_of_mem _ h)
  have hown : s.vm.findClass "jdk/internal/util/Preconditions" = some m.cls := findClass_of_methodNamed B.named
  have hlocks := B.notSynchronized
  subst hsz
  have hD := hD0.self (sz := s.heap.size)
  generalize hAe : va_A [] s.heap.size = A at hD hE ⊢
  have hA : ∀ q : Nat, s.heap.size ≤ q → A q := fun q h => by rw [← hAe]; exact Or.inr h
  have hS : va_S A s.heap s.heap [] := va_S.rf
  have hl := lv_entry ([.int (nI k), .int (nI n), .null]) (n := 3) (Nat.le_of_ble_eq_true rfl)
  rw [lg_entry_eq]
  generalize (lg_sl ([.int (nI k), .int (nI n), .null]) ++ List.replicate (3 - (lg_sl ([.int (nI k), .int (nI n), .null])).length) Slot.unset).toArray = ls at hl ⊢
  have hl : lv_has ls 3 [(0, .int (nI k)), (1, .int (nI n)), (2, .null)] := hl
  refine lv_iload_n hx hb d_P_checkIndex_0 rfl (lv_at hl 0 rfl) ?_
  refine lv_if_lt (tgt := 9) hx hb d_P_checkIndex_1 (by decide) (fun r_1 => ?_) (fun r_1 => ?_)
  · have c_1 := (nI_ltI (a := k) (b := 0) (by omega) (by omega)).mp r_1
    omega
  · have c_1 := mt (nI_ltI (a := k) (b := 0) (by omega) (by omega)).mpr r_1
    refine lv_iload_n hx hb d_P_checkIndex_4 rfl (lv_at hl 0 rfl) ?_
    refine lv_iload_n hx hb d_P_checkIndex_5 rfl (lv_at hl 1 rfl) ?_
    refine lv_icmp_lt (tgt := 16) hx hb d_P_checkIndex_6 (by decide) (fun r_6 => ?_) (fun r_6 => ?_)
    · have c_6 := (nI_ltI (a := k) (b := n) (by omega) (by omega)).mp r_6
      refine lv_iload_n hx hb d_P_checkIndex_16 rfl (lv_at hl 0 rfl) ?_
      exact cx_iret hx hb hr hlocks hK hP hD hS d_P_checkIndex_17 (rfl) (rfl)
    · have c_6 := mt (nI_ltI (a := k) (b := n) (by omega) (by omega)).mpr r_6
      omega
set_option maxHeartbeats 4000000 in
set_option maxRecDepth 100000 in
theorem c_P_checkIndexB (l : Launch) (G : cx_G) (D : va_G) (K : cx_KT) (sz : Nat) (k : Nat) (n : Nat) (q : Nat) (hk : k < n) (hn : n < 100) : Met l y_P_checkIndex w_P_checkIndex ({ frames := 0, cells := 0, slots := 0, locals := 0 }) (cx_Pc G D (cx_ty K) [] sz [.int (nI k), .int (nI n), .ref q]) (cx_Qi (nI k) D (cx_ty K) [] (va_A [] sz)) 0 0 (va_A [] sz) := by
  refine Met.ofW (cc := prog_9_method_11_code) (maxL := 3) (ret := (some .int)) (by decide) rfl ?_
  intro p e s m args below meth c s₁ B hml hv
  obtain ⟨rfl, hsz, hP, hK, hD0, hE⟩ := hv
  have hx := B.exec
  have hb := B.bytes
  have hr := B.returns
  have hts := atoms_spec (ws := w_P_checkIndex) B.pre
  have hw : ∀ w ∈ cw, w.before _ s = true := fun w h => hts w (List.mem_cons_of_mem _ h)
  have hown : s.vm.findClass "jdk/internal/util/Preconditions" = some m.cls := findClass_of_methodNamed B.named
  have hlocks := B.notSynchronized
  subst hsz
  have hD := hD0.self (sz := s.heap.size)
  generalize hAe : va_A [] s.heap.size = A at hD hE ⊢
  have hA : ∀ q : Nat, s.heap.size ≤ q → A q := fun q h => by rw [← hAe]; exact Or.inr h
  have hS : va_S A s.heap s.heap [] := va_S.rf
  have hl := lv_entry ([.int (nI k), .int (nI n), .ref q]) (n := 3) (Nat.le_of_ble_eq_true rfl)
  rw [lg_entry_eq]
  generalize (lg_sl ([.int (nI k), .int (nI n), .ref q]) ++ List.replicate (3 - (lg_sl ([.int (nI k), .int (nI n), .ref q])).length) Slot.unset).toArray = ls at hl ⊢
  have hl : lv_has ls 3 [(0, .int (nI k)), (1, .int (nI n)), (2, .ref q)] := hl
  refine lv_iload_n hx hb d_P_checkIndex_0 rfl (lv_at hl 0 rfl) ?_
  refine lv_if_lt (tgt := 9) hx hb d_P_checkIndex_1 (by decide) (fun r_1 => ?_) (fun r_1 => ?_)
  · have c_1 := (nI_ltI (a := k) (b := 0) (by omega) (by omega)).mp r_1
    omega
  · have c_1 := mt (nI_ltI (a := k) (b := 0) (by omega) (by omega)).mpr r_1
    refine lv_iload_n hx hb d_P_checkIndex_4 rfl (lv_at hl 0 rfl) ?_
    refine lv_iload_n hx hb d_P_checkIndex_5 rfl (lv_at hl 1 rfl) ?_
    refine lv_icmp_lt (tgt := 16) hx hb d_P_checkIndex_6 (by decide) (fun r_6 => ?_) (fun r_6 => ?_)
    · have c_6 := (nI_ltI (a := k) (b := n) (by omega) (by omega)).mp r_6
      refine lv_iload_n hx hb d_P_checkIndex_16 rfl (lv_at hl 0 rfl) ?_
      exact cx_iret hx hb hr hlocks hK hP hD hS d_P_checkIndex_17 (rfl) (rfl)
    · have c_6 := mt (nI_ltI (a := k) (b := n) (by omega) (by omega)).mpr r_6
      omega
set_option maxHeartbeats 4000000 in
set_option maxRecDepth 100000 in
theorem c_S_checkIndex (l : Launch) (G : cx_G) (D : va_G) (K : cx_KT) (sz : Nat) (k : Nat) (n : Nat) (hk : k < n) (hn : n < 100) : Met l y_S_checkIndex w_S_checkIndex ({ frames := 1, cells := 0, slots := 0, locals := 22 }) (cx_Pc G D (cx_ty K) [] sz [.int (nI k), .int (nI n)]) (cx_Qv D (cx_ty K) [] (va_A [] sz)) 0 0 (va_A [] sz) := by
  refine Met.ofW (cc := prog_6_method_155_code) (maxL := 2) (ret := none) (by decide) rfl ?_
  intro p e s m args below meth c s₁ B hml hv
  obtain ⟨rfl, hsz, hP, hK, hD0, hE⟩ := hv
  have hx := B.exec
  have hb := B.bytes
  have hr := B.returns
  have hts := atoms_spec (ws := w_S_checkIndex) B.pre
  have hw : ∀ w ∈ cw, w.before _ s = true := fun w h => hts w (List.mem_cons_of_mem _ h)
  have hown : s.vm.findClass "java/lang/String" = some m.cls := findClass_of_methodNamed B.named
  have hlocks := B.notSynchronized
  subst hsz
  have hD := hD0.self (sz := s.heap.size)
  generalize hAe : va_A [] s.heap.size = A at hD hE ⊢
  have hA : ∀ q : Nat, s.heap.size ≤ q → A q := fun q h => by rw [← hAe]; exact Or.inr h
  have hS : va_S A s.heap s.heap [] := va_S.rf
  have hl := lv_entry ([.int (nI k), .int (nI n)]) (n := 2) (Nat.le_of_ble_eq_true rfl)
  rw [lg_entry_eq]
  generalize (lg_sl ([.int (nI k), .int (nI n)]) ++ List.replicate (2 - (lg_sl ([.int (nI k), .int (nI n)])).length) Slot.unset).toArray = ls at hl ⊢
  have hl : lv_has ls 2 [(0, .int (nI k)), (1, .int (nI n))] := hl
  refine lv_iload_n hx hb d_S_checkIndex_0 rfl (lv_at hl 0 rfl) ?_
  refine lv_iload_n hx hb d_S_checkIndex_1 rfl (lv_at hl 1 rfl) ?_
  rcases hE.2.2.2.2 with hZ9 | ⟨t9, hZ9⟩
  · refine va_gets hx hb hZ9 hS hown (hw _ k_209) (fun _ h9 => h9) d_S_checkIndex_2 ?_
    refine cx_ci (wr := []) (wN := []) (va_runS (As := [.int (nI k), .int (nI n), .null]) (rest := []) ⟨hx, hb, hml, hown, hw⟩ (c_P_checkIndexA l G D K s.heap.size k n (by omega) (by omega)) (va_cwS 3 hw (cx_gS k_211 k_212 k_7 k_213) rfl rfl rfl (by decide +kernel) ⟨Nat.le_of_ble_eq_true rfl, Nat.le_of_ble_eq_true rfl⟩) (cx_pre hK hP hD hS hA hE [] rfl rfl (by decide)) rfl rfl hl.1 rfl (lv_room (Nat.le_of_ble_eq_true rfl)) d_S_checkIndex_5 ⟨Nat.le_of_ble_eq_true rfl, Nat.le_of_ble_eq_true rfl⟩) hP hD hS hA [] [] rfl rfl (by decide) (by decide) [] rfl rfl (by decide) (fun H locs hP hD hS => ?_)
    refine lv_pop hx hb d_S_checkIndex_8 rfl ?_
    exact cx_vret hx hb hr hlocks hK hP hD hS d_S_checkIndex_9 (rfl)
  · refine va_gets hx hb hZ9 hS hown (hw _ k_209) (fun _ h9 => h9) d_S_checkIndex_2 ?_
    refine cx_ci (wr := []) (wN := []) (va_runS (As := [.int (nI k), .int (nI n), .ref t9]) (rest := []) ⟨hx, hb, hml, hown, hw⟩ (c_P_checkIndexB l G D K s.heap.size k n t9 (by omega) (by omega)) (va_cwS 3 hw (cx_gS k_211 k_212 k_7 k_213) rfl rfl rfl (by decide +kernel) ⟨Nat.le_of_ble_eq_true rfl, Nat.le_of_ble_eq_true rfl⟩) (cx_pre hK hP hD hS hA hE [] rfl rfl (by decide)) rfl rfl hl.1 rfl (lv_room (Nat.le_of_ble_eq_true rfl)) d_S_checkIndex_5 ⟨Nat.le_of_ble_eq_true rfl, Nat.le_of_ble_eq_true rfl⟩) hP hD hS hA [] [] rfl rfl (by decide) (by decide) [] rfl rfl (by decide) (fun H locs hP hD hS => ?_)
    refine lv_pop hx hb d_S_checkIndex_8 rfl ?_
    exact cx_vret hx hb hr hlocks hK hP hD hS d_S_checkIndex_9 (rfl)
set_option maxHeartbeats 4000000 in
set_option maxRecDepth 100000 in
theorem c_S1_charAt (l : Launch) (G : cx_G) (D : va_G) (K : cx_KT) (sz : Nat) (k : Nat) (hk : k < 8) : Met l y_S1_charAt w_S1_charAt ({ frames := 2, cells := 0, slots := 0, locals := 43 }) (cx_Pc G D (cx_ty K) [] sz [.ref G.2.2, .int (nI k)]) (cx_Qi (nI (bd_ltN k)) D (cx_ty K) [] (va_A [] sz)) 0 0 (va_A [] sz) := by
  refine Met.ofW (cc := prog_7_method_2_code) (maxL := 2) (ret := (some .char)) (by decide) rfl ?_
  intro p e s m args below meth c s₁ B hml hv
  obtain ⟨rfl, hsz, hP, hK, hD0, hE⟩ := hv
  have hx := B.exec
  have hb := B.bytes
  have hr := B.returns
  have hts := atoms_spec (ws := w_S1_charAt) B.pre
  have hw : ∀ w ∈ cw, w.before _ s = true := fun w h => hts w (List.mem_cons_of_mem _ h)
  have hown : s.vm.findClass "java/lang/StringLatin1" = some m.cls := findClass_of_methodNamed B.named
  have hlocks := B.notSynchronized
  subst hsz
  have hD := hD0.self (sz := s.heap.size)
  generalize hAe : va_A [] s.heap.size = A at hD hE ⊢
  have hA : ∀ q : Nat, s.heap.size ≤ q → A q := fun q h => by rw [← hAe]; exact Or.inr h
  have hS : va_S A s.heap s.heap [] := va_S.rf
  have hl := lv_entry ([.ref G.2.2, .int (nI k)]) (n := 2) (Nat.le_of_ble_eq_true rfl)
  rw [lg_entry_eq]
  generalize (lg_sl ([.ref G.2.2, .int (nI k)]) ++ List.replicate (2 - (lg_sl ([.ref G.2.2, .int (nI k)])).length) Slot.unset).toArray = ls at hl ⊢
  have hl : lv_has ls 2 [(0, .ref G.2.2), (1, .int (nI k))] := hl
  refine lv_iload_n hx hb d_S1_charAt_0 rfl (lv_at hl 1 rfl) ?_
  refine lv_aload_n hx hb d_S1_charAt_1 rfl (lv_at hl 0 rfl) ?_
  refine va_tlen (v := 8) hx hb hE.2.2.2.1.2.2.2.2 hS rfl d_S1_charAt_2 ?_
  refine cx_cv (wr := []) (wN := []) (va_runS (As := [.int (nI k), .int 8]) (rest := []) ⟨hx, hb, hml, hown, hw⟩ (c_S_checkIndex l G D K s.heap.size k 8 (by omega) (by omega)) (va_cwS 2 hw (cx_gS k_206 k_207 k_5 k_208) rfl rfl rfl (by decide +kernel) ⟨Nat.le_of_ble_eq_true rfl, Nat.le_of_ble_eq_true rfl⟩) (cx_pre hK hP hD hS hA hE [] rfl rfl (by decide)) rfl rfl hl.1 rfl (lv_room (Nat.le_of_ble_eq_true rfl)) d_S1_charAt_3 ⟨Nat.le_of_ble_eq_true rfl, Nat.le_of_ble_eq_true rfl⟩) hP hD hS hA [] [] rfl rfl (by decide) (by decide) [] rfl rfl (by decide) (fun H locs hP hD hS => ?_)
  refine lv_aload_n hx hb d_S1_charAt_6 rfl (lv_at hl 0 rfl) ?_
  refine lv_iload_n hx hb d_S1_charAt_7 rfl (lv_at hl 1 rfl) ?_
  refine va_tb (v := .int (bd_lt k)) hx hb hE.2.2.2.1.2.2.2.2 hS (vp_in_nI (n := k) (by omega) (by omega)) (by rw [nI_clamp (by omega)]) d_S1_charAt_8 ?_
  refine lv_sipush (v := 255) hx hb d_S1_charAt_9 (by decide) ?_
  refine lv_iand hx hb d_S1_charAt_12 ?_
  refine lv_i2c (v := nI (bd_ltN k)) hx hb d_S1_charAt_13 (bd_ltC k hk) ?_
  exact cx_zret hx hb hr hlocks hK hP hD hS d_S1_charAt_14 ((pk_charN (Nat.lt_trans (bd_ltL k hk) (by omega))).1) (rfl) (rfl)
set_option maxHeartbeats 4000000 in
set_option maxRecDepth 100000 in
theorem c_S_coder (l : Launch) (G : cx_G) (D : va_G) (K : cx_KT) (sz : Nat)   : Met l y_S_coder w_S_coder ({ frames := 0, cells := 0, slots := 0, locals := 0 }) (cx_Pc G D (cx_ty K) [] sz [.ref G.2.1]) (cx_Qi 0 D (cx_ty K) [] (va_A [] sz)) 0 0 (va_A [] sz) := by
  refine Met.ofW (cc := prog_6_method_152_code) (maxL := 1) (ret := (some .byte)) (by decide) rfl ?_
  intro p e s m args below meth c s₁ B hml hv
  obtain ⟨rfl, hsz, hP, hK, hD0, hE⟩ := hv
  have hx := B.exec
  have hb := B.bytes
  have hr := B.returns
  have hts := atoms_spec (ws := w_S_coder) B.pre
  have hw : ∀ w ∈ cw, w.before _ s = true := fun w h => hts w (List.mem_cons_of_mem _ h)
  have hown : s.vm.findClass "java/lang/String" = some m.cls := findClass_of_methodNamed B.named
  have hlocks := B.notSynchronized
  subst hsz
  have hD := hD0.self (sz := s.heap.size)
  generalize hAe : va_A [] s.heap.size = A at hD hE ⊢
  have hA : ∀ q : Nat, s.heap.size ≤ q → A q := fun q h => by rw [← hAe]; exact Or.inr h
  have hS : va_S A s.heap s.heap [] := va_S.rf
  have hl := lv_entry ([.ref G.2.1]) (n := 1) (Nat.le_of_ble_eq_true rfl)
  rw [lg_entry_eq]
  generalize (lg_sl ([.ref G.2.1]) ++ List.replicate (1 - (lg_sl ([.ref G.2.1])).length) Slot.unset).toArray = ls at hl ⊢
  have hl : lv_has ls 1 [(0, .ref G.2.1)] := hl
  refine va_gets hx hb hE.2.2.1 hS hown (hw _ k_193) (fun _ h9 => h9) d_S_coder_0 ?_
  refine lv_if_eq (tgt := 13) hx hb d_S_coder_3 (by decide) (fun r_3 => ?_) (fun r_3 => ?_)
  · have c_3 := r_3
    exact absurd r_3 (by decide)
  · have c_3 := r_3
    refine lv_aload_n hx hb d_S_coder_6 rfl (lv_at hl 0 rfl) ?_
    refine vk_getf hx hb hE.2.2.2.1.2.2.1 hS hown (hw _ k_436) (fun _ h9 => h9) d_S_coder_7 ?_
    refine lv_goto (tgt := 14) hx hb d_S_coder_10 (by decide) ?_
    exact cx_zret hx hb hr hlocks hK hP hD hS d_S_coder_14 (rfl) (rfl) (rfl)
set_option maxHeartbeats 4000000 in
set_option maxRecDepth 100000 in
theorem c_S_isLatin1 (l : Launch) (G : cx_G) (D : va_G) (K : cx_KT) (sz : Nat)   : Met l y_S_isLatin1 w_S_isLatin1 ({ frames := 0, cells := 0, slots := 0, locals := 0 }) (cx_Pc G D (cx_ty K) [] sz [.ref G.2.1]) (cx_Qi 1 D (cx_ty K) [] (va_A [] sz)) 0 0 (va_A [] sz) := by
  refine Met.ofW (cc := prog_6_method_154_code) (maxL := 1) (ret := (some .boolean)) (by decide) rfl ?_
  intro p e s m args below meth c s₁ B hml hv
  obtain ⟨rfl, hsz, hP, hK, hD0, hE⟩ := hv
  have hx := B.exec
  have hb := B.bytes
  have hr := B.returns
  have hts := atoms_spec (ws := w_S_isLatin1) B.pre
  have hw : ∀ w ∈ cw, w.before _ s = true := fun w h => hts w (List.mem_cons_of_mem _ h)
  have hown : s.vm.findClass "java/lang/String" = some m.cls := findClass_of_methodNamed B.named
  have hlocks := B.notSynchronized
  subst hsz
  have hD := hD0.self (sz := s.heap.size)
  generalize hAe : va_A [] s.heap.size = A at hD hE ⊢
  have hA : ∀ q : Nat, s.heap.size ≤ q → A q := fun q h => by rw [← hAe]; exact Or.inr h
  have hS : va_S A s.heap s.heap [] := va_S.rf
  have hl := lv_entry ([.ref G.2.1]) (n := 1) (Nat.le_of_ble_eq_true rfl)
  rw [lg_entry_eq]
  generalize (lg_sl ([.ref G.2.1]) ++ List.replicate (1 - (lg_sl ([.ref G.2.1])).length) Slot.unset).toArray = ls at hl ⊢
  have hl : lv_has ls 1 [(0, .ref G.2.1)] := hl
  refine va_gets hx hb hE.2.2.1 hS hown (hw _ k_193) (fun _ h9 => h9) d_S_isLatin1_0 ?_
  refine lv_if_eq (tgt := 17) hx hb d_S_isLatin1_3 (by decide) (fun r_3 => ?_) (fun r_3 => ?_)
  · have c_3 := r_3
    exact absurd r_3 (by decide)
  · have c_3 := r_3
    refine lv_aload_n hx hb d_S_isLatin1_6 rfl (lv_at hl 0 rfl) ?_
    refine vk_getf hx hb hE.2.2.2.1.2.2.1 hS hown (hw _ k_436) (fun _ h9 => h9) d_S_isLatin1_7 ?_
    refine lv_if_ne (tgt := 17) hx hb d_S_isLatin1_10 (by decide) (fun r_10 => ?_) (fun r_10 => ?_)
    · have c_10 := r_10
      exact absurd rfl r_10
    · have c_10 := r_10
      refine lv_iconst (v := 1) hx hb d_S_isLatin1_13 (by decide) ?_
      refine lv_goto (tgt := 18) hx hb d_S_isLatin1_14 (by decide) ?_
      exact cx_zret hx hb hr hlocks hK hP hD hS d_S_isLatin1_18 (rfl) (rfl) (rfl)
set_option maxHeartbeats 4000000 in
set_option maxRecDepth 100000 in
theorem c_S_length (l : Launch) (G : cx_G) (D : va_G) (K : cx_KT) (sz : Nat)   : Met l y_S_length w_S_length ({ frames := 1, cells := 0, slots := 0, locals := 20 }) (cx_Pc G D (cx_ty K) [] sz [.ref G.2.1]) (cx_Qi 8 D (cx_ty K) [] (va_A [] sz)) 0 0 (va_A [] sz) := by
  refine Met.ofW (cc := prog_6_method_54_code) (maxL := 1) (ret := (some .int)) (by decide) rfl ?_
  intro p e s m args below meth c s₁ B hml hv
  obtain ⟨rfl, hsz, hP, hK, hD0, hE⟩ := hv
  have hx := B.exec
  have hb := B.bytes
  have hr := B.returns
  have hts := atoms_spec (ws := w_S_length) B.pre
  have hw : ∀ w ∈ cw, w.before _ s = true := fun w h => hts w (List.mem_cons_of_mem _ h)
  have hown : s.vm.findClass "java/lang/String" = some m.cls := findClass_of_methodNamed B.named
  have hlocks := B.notSynchronized
  subst hsz
  have hD := hD0.self (sz := s.heap.size)
  generalize hAe : va_A [] s.heap.size = A at hD hE ⊢
  have hA : ∀ q : Nat, s.heap.size ≤ q → A q := fun q h => by rw [← hAe]; exact Or.inr h
  have hS : va_S A s.heap s.heap [] := va_S.rf
  have hl := lv_entry ([.ref G.2.1]) (n := 1) (Nat.le_of_ble_eq_true rfl)
  rw [lg_entry_eq]
  generalize (lg_sl ([.ref G.2.1]) ++ List.replicate (1 - (lg_sl ([.ref G.2.1])).length) Slot.unset).toArray = ls at hl ⊢
  have hl : lv_has ls 1 [(0, .ref G.2.1)] := hl
  refine lv_aload_n hx hb d_S_length_0 rfl (lv_at hl 0 rfl) ?_
  refine vk_getf hx hb hE.2.2.2.1.2.2.2.1 hS hown (hw _ k_435) (fun _ h9 => h9) d_S_length_1 ?_
  refine va_tlen (v := 8) hx hb hE.2.2.2.1.2.2.2.2 hS rfl d_S_length_4 ?_
  refine lv_aload_n hx hb d_S_length_5 rfl (lv_at hl 0 rfl) ?_
  refine cx_ci (wr := []) (wN := []) (va_runV (As := []) (rest := [.int 8]) ⟨hx, hb, hml, hown, hw⟩ (c_S_coder l G D K s.heap.size ) (cwV 0 hw (cx_gV k_189 k_190 k_191 k_5 k_192) rfl rfl rfl (by decide +kernel) ⟨Nat.le_of_ble_eq_true rfl, Nat.le_of_ble_eq_true rfl⟩) (cx_preS hK hP hD hS hA hE [] rfl rfl (by decide)) rfl rfl hl.1 rfl (lv_room (Nat.le_of_ble_eq_true rfl)) d_S_length_6 ⟨Nat.le_of_ble_eq_true rfl, Nat.le_of_ble_eq_true rfl⟩) hP hD hS hA [] [] rfl rfl (by decide) (by decide) [] rfl rfl (by decide) (fun H locs hP hD hS => ?_)
  refine lv_ishr hx hb d_S_length_9 ?_
  refine cx_ti (y := 8) (by decide) ?_
  exact cx_iret hx hb hr hlocks hK hP hD hS d_S_length_10 (rfl) (rfl)
set_option maxHeartbeats 4000000 in
set_option maxRecDepth 100000 in
theorem c_S_charAt (l : Launch) (G : cx_G) (D : va_G) (K : cx_KT) (sz : Nat) (k : Nat) (hk : k < 8) : Met l y_S_charAt w_S_charAt ({ frames := 3, cells := 0, slots := 0, locals := 64 }) (cx_Pc G D (cx_ty K) [] sz [.ref G.2.1, .int (nI k)]) (cx_Qi (nI (bd_ltN k)) D (cx_ty K) [] (va_A [] sz)) 0 0 (va_A [] sz) := by
  refine Met.ofW (cc := prog_6_method_56_code) (maxL := 2) (ret := (some .char)) (by decide) rfl ?_
  intro p e s m args below meth c s₁ B hml hv
  obtain ⟨rfl, hsz, hP, hK, hD0, hE⟩ := hv
  have hx := B.exec
  have hb := B.bytes
  have hr := B.returns
  have hts := atoms_spec (ws := w_S_charAt) B.pre
  have hw : ∀ w ∈ cw, w.before _ s = true := fun w h => hts w (List.mem_cons_of_mem _ h)
  have hown : s.vm.findClass "java/lang/String" = some m.cls := findClass_of_methodNamed B.named
  have hlocks := B.notSynchronized
  subst hsz
  have hD := hD0.self (sz := s.heap.size)
  generalize hAe : va_A [] s.heap.size = A at hD hE ⊢
  have hA : ∀ q : Nat, s.heap.size ≤ q → A q := fun q h => by rw [← hAe]; exact Or.inr h
  have hS : va_S A s.heap s.heap [] := va_S.rf
  have hl := lv_entry ([.ref G.2.1, .int (nI k)]) (n := 2) (Nat.le_of_ble_eq_true rfl)
  rw [lg_entry_eq]
  generalize (lg_sl ([.ref G.2.1, .int (nI k)]) ++ List.replicate (2 - (lg_sl ([.ref G.2.1, .int (nI k)])).length) Slot.unset).toArray = ls at hl ⊢
  have hl : lv_has ls 2 [(0, .ref G.2.1), (1, .int (nI k))] := hl
  refine lv_aload_n hx hb d_S_charAt_0 rfl (lv_at hl 0 rfl) ?_
  refine cx_ci (wr := []) (wN := []) (va_runV (As := []) (rest := []) ⟨hx, hb, hml, hown, hw⟩ (c_S_isLatin1 l G D K s.heap.size ) (cwV 0 hw (cx_gV k_199 k_200 k_201 k_5 k_202) rfl rfl rfl (by decide +kernel) ⟨Nat.le_of_ble_eq_true rfl, Nat.le_of_ble_eq_true rfl⟩) (cx_preS hK hP hD hS hA hE [] rfl rfl (by decide)) rfl rfl hl.1 rfl (lv_room (Nat.le_of_ble_eq_true rfl)) d_S_charAt_1 ⟨Nat.le_of_ble_eq_true rfl, Nat.le_of_ble_eq_true rfl⟩) hP hD hS hA [] [] rfl rfl (by decide) (by decide) [] rfl rfl (by decide) (fun H locs hP hD hS => ?_)
  refine lv_if_eq (tgt := 16) hx hb d_S_charAt_4 (by decide) (fun r_4 => ?_) (fun r_4 => ?_)
  · have c_4 := r_4
    exact absurd r_4 (by decide)
  · have c_4 := r_4
    refine lv_aload_n hx hb d_S_charAt_7 rfl (lv_at hl 0 rfl) ?_
    refine vk_getf hx hb hE.2.2.2.1.2.2.2.1 hS hown (hw _ k_435) (fun _ h9 => h9) d_S_charAt_8 ?_
    refine lv_iload_n hx hb d_S_charAt_11 rfl (lv_at hl 1 rfl) ?_
    refine cx_ci (wr := []) (wN := []) (va_runS (As := [.ref G.2.2, .int (nI k)]) (rest := []) ⟨hx, hb, hml, hown, hw⟩ (c_S1_charAt l G D K H.size k (by omega)) (va_cwS 2 hw (cx_gS k_203 k_204 k_6 k_205) rfl rfl rfl (by decide +kernel) ⟨Nat.le_of_ble_eq_true rfl, Nat.le_of_ble_eq_true rfl⟩) (cx_pre hK hP hD hS hA hE [] rfl rfl (by decide)) rfl rfl hl.1 rfl (lv_room (Nat.le_of_ble_eq_true rfl)) d_S_charAt_12 ⟨Nat.le_of_ble_eq_true rfl, Nat.le_of_ble_eq_true rfl⟩) hP hD hS hA [] [] rfl rfl (by decide) (by decide) [] rfl rfl (by decide) (fun H locs hP hD hS => ?_)
    exact cx_zret hx hb hr hlocks hK hP hD hS d_S_charAt_15 ((pk_charN (Nat.lt_trans (bd_ltL k hk) (by omega))).1) (rfl) (rfl)
set_option maxHeartbeats 4000000 in
set_option maxRecDepth 100000 in
theorem c_B_letterOf (l : Launch) (G : cx_G) (D : va_G) (K : cx_KT) (sz : Nat) (k : Nat) (hk : k < 8) : Met l y_B_letterOf w_B_letterOf ({ frames := 4, cells := 0, slots := 0, locals := 85 }) (cx_Pc G D (cx_ty K) [] sz [.int (nI k)]) (cx_Qi (nI (bd_ltN k)) D (cx_ty K) [] (va_A [] sz)) 0 0 (va_A [] sz) := by
  refine Met.ofW (cc := prog_1_method_22_code) (maxL := 1) (ret := (some .char)) (by decide) rfl ?_
  intro p e s m args below meth c s₁ B hml hv
  obtain ⟨rfl, hsz, hP, hK, hD0, hE⟩ := hv
  have hx := B.exec
  have hb := B.bytes
  have hr := B.returns
  have hts := atoms_spec (ws := w_B_letterOf) B.pre
  have hw : ∀ w ∈ cw, w.before _ s = true := fun w h => hts w (List.mem_cons_of_mem _ h)
  have hown : s.vm.findClass "BuildDrawer" = some m.cls := findClass_of_methodNamed B.named
  have hlocks := B.notSynchronized
  subst hsz
  have hD := hD0.self (sz := s.heap.size)
  generalize hAe : va_A [] s.heap.size = A at hD hE ⊢
  have hA : ∀ q : Nat, s.heap.size ≤ q → A q := fun q h => by rw [← hAe]; exact Or.inr h
  have hS : va_S A s.heap s.heap [] := va_S.rf
  have hl := lv_entry ([.int (nI k)]) (n := 1) (Nat.le_of_ble_eq_true rfl)
  rw [lg_entry_eq]
  generalize (lg_sl ([.int (nI k)]) ++ List.replicate (1 - (lg_sl ([.int (nI k)])).length) Slot.unset).toArray = ls at hl ⊢
  have hl : lv_has ls 1 [(0, .int (nI k))] := hl
  refine lv_iload_n hx hb d_B_letterOf_0 rfl (lv_at hl 0 rfl) ?_
  refine lv_if_lt (tgt := 22) hx hb d_B_letterOf_1 (by decide) (fun r_1 => ?_) (fun r_1 => ?_)
  · have c_1 := (nI_ltI (a := k) (b := 0) (by omega) (by omega)).mp r_1
    omega
  · have c_1 := mt (nI_ltI (a := k) (b := 0) (by omega) (by omega)).mpr r_1
    refine lv_iload_n hx hb d_B_letterOf_4 rfl (lv_at hl 0 rfl) ?_
    refine va_ldcS hx hb hown hE.2.2.2.1.1 d_B_letterOf_5 ?_
    refine cx_ci (wr := []) (wN := []) (va_runV (As := []) (rest := [.int (nI k)]) ⟨hx, hb, hml, hown, hw⟩ (c_S_length l G D K s.heap.size ) (cwV 0 hw (cx_gV k_185 k_186 k_187 k_5 k_188) rfl rfl rfl (by decide +kernel) ⟨Nat.le_of_ble_eq_true rfl, Nat.le_of_ble_eq_true rfl⟩) (cx_preS hK hP hD hS hA hE [] rfl rfl (by decide)) rfl rfl hl.1 rfl (lv_room (Nat.le_of_ble_eq_true rfl)) d_B_letterOf_7 ⟨Nat.le_of_ble_eq_true rfl, Nat.le_of_ble_eq_true rfl⟩) hP hD hS hA [] [] rfl rfl (by decide) (by decide) [] rfl rfl (by decide) (fun H locs hP hD hS => ?_)
    refine lv_icmp_ge (tgt := 22) hx hb d_B_letterOf_10 (by decide) (fun r_10 => ?_) (fun r_10 => ?_)
    · have c_10 := (nI_leI (a := 8) (b := k) (by omega) (by omega)).mp r_10
      omega
    · have c_10 := mt (nI_leI (a := 8) (b := k) (by omega) (by omega)).mpr r_10
      refine va_ldcS hx hb hown hE.2.2.2.1.1 d_B_letterOf_13 ?_
      refine lv_iload_n hx hb d_B_letterOf_15 rfl (lv_at hl 0 rfl) ?_
      refine cx_ci (wr := []) (wN := []) (va_runV (As := [.int (nI k)]) (rest := []) ⟨hx, hb, hml, hown, hw⟩ (c_S_charAt l G D K H.size k (by omega)) (cwV 1 hw (cx_gV k_195 k_196 k_197 k_5 k_198) rfl rfl rfl (by decide +kernel) ⟨Nat.le_of_ble_eq_true rfl, Nat.le_of_ble_eq_true rfl⟩) (cx_preS hK hP hD hS hA hE [] rfl rfl (by decide)) rfl rfl hl.1 rfl (lv_room (Nat.le_of_ble_eq_true rfl)) d_B_letterOf_16 ⟨Nat.le_of_ble_eq_true rfl, Nat.le_of_ble_eq_true rfl⟩) hP hD hS hA [] [] rfl rfl (by decide) (by decide) [] rfl rfl (by decide) (fun H locs hP hD hS => ?_)
      refine lv_goto (tgt := 24) hx hb d_B_letterOf_19 (by decide) ?_
      exact cx_zret hx hb hr hlocks hK hP hD hS d_B_letterOf_24 ((pk_charN (Nat.lt_trans (bd_ltL k hk) (by omega))).1) (rfl) (rfl)
end
section
theorem bd_nm1 {n : Nat} (h : n < 2 ^ 31) : ¬ nI n = -1 := fun e => nI_pos h (by rw [e]; decide)
set_option maxHeartbeats 4000000 in
set_option maxRecDepth 100000 in
theorem c_B_writeSign (l : Launch) (G : cx_G) (D : va_G) (K : cx_KT) (sz : Nat) (h0 : Nat) (seed : Int64) (hM : Nat) (hO : Nat) (cnt : Nat) (aS : Nat) (aA : Nat) (aB : Nat) (aN : Nat) (aM : Nat) (aL : Nat) (vb : Int32) (vs : Int32) (aT : Nat) (n : Nat) (fT : Nat → Int32) (q : Nat) (hn : n < 992) (hq : q < 65536) : Met l y_B_writeSign w_B_writeSign ({ frames := 0, cells := 0, slots := 0, locals := 0 }) (cx_Pc G D (cx_ty K) [(h0, .inr (1, [.long seed, .ref hM, .ref hO, .int (nI cnt), .ref aS, .ref aA, .ref aB, .ref aN, .ref aM, .ref aL, .int vb, .int vs, .ref aT, .int (nI n)])), (aT, .inl (K.2.2, 992, .inl fT))] sz [.ref h0, .int (nI q)]) (cx_Qv D (cx_ty K) [(h0, .inr (1, [.long seed, .ref hM, .ref hO, .int (nI cnt), .ref aS, .ref aA, .ref aB, .ref aN, .ref aM, .ref aL, .int vb, .int vs, .ref aT, .int (nI (n + ([q]).length))])), (aT, .inl (K.2.2, 992, .inl (bd_app fT n ([q]))))] (va_A [(h0, .inr (1, [.long seed, .ref hM, .ref hO, .int (nI cnt), .ref aS, .ref aA, .ref aB, .ref aN, .ref aM, .ref aL, .int vb, .int vs, .ref aT, .int (nI n)])), (aT, .inl (K.2.2, 992, .inl fT))] sz)) 0 0 (va_A [(h0, .inr (1, [.long seed, .ref hM, .ref hO, .int (nI cnt), .ref aS, .ref aA, .ref aB, .ref aN, .ref aM, .ref aL, .int vb, .int vs, .ref aT, .int (nI n)])), (aT, .inl (K.2.2, 992, .inl fT))] sz) := by
  refine Met.ofW (cc := prog_1_method_25_code) (maxL := 2) (ret := none) (by decide) rfl ?_
  intro p e s m args below meth c s₁ B hml hv
  obtain ⟨rfl, hsz, hP, hK, hD0, hE⟩ := hv
  have hx := B.exec
  have hb := B.bytes
  have hr := B.returns
  have hts := atoms_spec (ws := w_B_writeSign) B.pre
  have hw : ∀ w ∈ cw, w.before _ s = true := fun w h => hts w (List.mem_cons_of_mem _ h)
  have hown : s.vm.findClass "BuildDrawer" = some m.cls := findClass_of_methodNamed B.named
  have hlocks := B.notSynchronized
  subst hsz
  have hD := hD0.self (sz := s.heap.size)
  generalize hAe : va_A [(h0, .inr (1, [.long seed, .ref hM, .ref hO, .int (nI cnt), .ref aS, .ref aA, .ref aB, .ref aN, .ref aM, .ref aL, .int vb, .int vs, .ref aT, .int (nI n)])), (aT, .inl (K.2.2, 992, .inl fT))] s.heap.size = A at hD hE ⊢
  have hA : ∀ q : Nat, s.heap.size ≤ q → A q := fun q h => by rw [← hAe]; exact Or.inr h
  have hS : va_S A s.heap s.heap [] := va_S.rf
  have hl := lv_entry ([.ref h0, .int (nI q)]) (n := 2) (Nat.le_of_ble_eq_true rfl)
  rw [lg_entry_eq]
  generalize (lg_sl ([.ref h0, .int (nI q)]) ++ List.replicate (2 - (lg_sl ([.ref h0, .int (nI q)])).length) Slot.unset).toArray = ls at hl ⊢
  have hl : lv_has ls 2 [(0, .ref h0), (1, .int (nI q))] := hl
  refine lv_aload_n hx hb d_B_writeSign_0 rfl (lv_at hl 0 rfl) ?_
  refine va_get (D := D) (ci := 1) (v := .int (nI n)) (C := "BuildDrawer") (T := TB) (N := 14) hx hb hw inB hown hK hP 0 rfl rfl 13 (by decide) (hw _ k_69) (fun _ h9 => h9) rfl d_B_writeSign_1 ?_
  refine lv_if_lt (tgt := 37) hx hb d_B_writeSign_4 (by decide) (fun r_4 => ?_) (fun r_4 => ?_)
  · have c_4 := (nI_ltI (a := n) (b := 0) (by omega) (by omega)).mp r_4
    omega
  · have c_4 := mt (nI_ltI (a := n) (b := 0) (by omega) (by omega)).mpr r_4
    refine lv_aload_n hx hb d_B_writeSign_7 rfl (lv_at hl 0 rfl) ?_
    refine va_get (D := D) (ci := 1) (v := .int (nI n)) (C := "BuildDrawer") (T := TB) (N := 14) hx hb hw inB hown hK hP 0 rfl rfl 13 (by decide) (hw _ k_69) (fun _ h9 => h9) rfl d_B_writeSign_8 ?_
    refine lv_sipush (v := 992) hx hb d_B_writeSign_11 (by decide) ?_
    refine lv_icmp_ge (tgt := 37) hx hb d_B_writeSign_14 (by decide) (fun r_14 => ?_) (fun r_14 => ?_)
    · have c_14 := (nI_leI (a := 992) (b := n) (by omega) (by omega)).mp r_14
      omega
    · have c_14 := mt (nI_leI (a := 992) (b := n) (by omega) (by omega)).mpr r_14
      refine lv_aload_n hx hb d_B_writeSign_17 rfl (lv_at hl 0 rfl) ?_
      refine va_get (D := D) (ci := 1) (v := .ref aT) (C := "BuildDrawer") (T := TB) (N := 14) hx hb hw inB hown hK hP 0 rfl rfl 12 (by decide) (hw _ k_68) (fun _ h9 => h9) rfl d_B_writeSign_18 ?_
      refine lv_aload_n hx hb d_B_writeSign_21 rfl (lv_at hl 0 rfl) ?_
      refine va_get (D := D) (ci := 1) (v := .int (nI n)) (C := "BuildDrawer") (T := TB) (N := 14) hx hb hw inB hown hK hP 0 rfl rfl 13 (by decide) (hw _ k_69) (fun _ h9 => h9) rfl d_B_writeSign_22 ?_
      refine lv_iload_n hx hb d_B_writeSign_25 rfl (lv_at hl 1 rfl) ?_
      refine va_cast hx hb hK hP hD hS 1 2 rfl rfl (vp_in_nI (n := n) (by omega) (by omega)) d_B_writeSign_26 (fun H locs hP hD hS => ?_)
      have e_26 : upd fT (nI n).toNatClampNeg (vp_nar .char (nI q)) = bd_app fT n [q] := by rw [nI_clamp (by omega), bd_nc hq]; exact bd_app1 _ _ _
      have hP : va_P D vwCl [(h0, .inr (1, [.long seed, .ref hM, .ref hO, .int (nI cnt), .ref aS, .ref aA, .ref aB, .ref aN, .ref aM, .ref aL, .int vb, .int vs, .ref aT, .int (nI n)])), (aT, .inl (K.2.2, 992, .inl (upd fT (nI n).toNatClampNeg (vp_nar .char (nI q)))))] H := hP
      have hD : va_D A [(h0, .inr (1, [.long seed, .ref hM, .ref hO, .int (nI cnt), .ref aS, .ref aA, .ref aB, .ref aN, .ref aM, .ref aL, .int vb, .int vs, .ref aT, .int (nI n)])), (aT, .inl (K.2.2, 992, .inl (upd fT (nI n).toNatClampNeg (vp_nar .char (nI q)))))] := hD
      rw [e_26] at hP hD
      have hP : va_P D vwCl [(h0, .inr (1, [.long seed, .ref hM, .ref hO, .int (nI cnt), .ref aS, .ref aA, .ref aB, .ref aN, .ref aM, .ref aL, .int vb, .int vs, .ref aT, .int (nI n)])), (aT, .inl (K.2.2, 992, .inl (bd_app fT n [q])))] H := hP
      have hD : va_D A [(h0, .inr (1, [.long seed, .ref hM, .ref hO, .int (nI cnt), .ref aS, .ref aA, .ref aB, .ref aN, .ref aM, .ref aL, .int vb, .int vs, .ref aT, .int (nI n)])), (aT, .inl (K.2.2, 992, .inl (bd_app fT n [q])))] := hD
      refine lv_aload_n hx hb d_B_writeSign_27 rfl (lv_at hl 0 rfl) ?_
      refine lv_dup hx hb d_B_writeSign_28 rfl ?_
      refine va_get (D := D) (ci := 1) (v := .int (nI n)) (C := "BuildDrawer") (T := TB) (N := 14) hx hb hw inB hown hK hP 0 rfl rfl 13 (by decide) (hw _ k_69) (fun _ h9 => h9) rfl d_B_writeSign_29 ?_
      refine lv_iconst (v := 1) hx hb d_B_writeSign_32 (by decide) ?_
      refine lv_iadd hx hb d_B_writeSign_33 ?_
      refine cx_ti (y := nI (n + 1)) (by exact nI_add n 1) ?_
      refine va_put (D := D) (ci := 1) (v := .int (nI (n + 1))) (ty := .int) (C := "BuildDrawer") (T := TB) (N := 14) hx hb hw inB tyB tyB_ok nmB hown hK hP hD hS 0 rfl rfl 13 (by decide) (hw _ k_69) (fun _ h9 => h9) rfl (by decide +kernel) rfl rfl (Nat.le_of_ble_eq_true rfl) d_B_writeSign_34 (fun H locs hP hD hS => ?_)
      have hP : va_P D vwCl [(h0, .inr (1, [.long seed, .ref hM, .ref hO, .int (nI cnt), .ref aS, .ref aA, .ref aB, .ref aN, .ref aM, .ref aL, .int vb, .int vs, .ref aT, .int (nI (n + 1))])), (aT, .inl (K.2.2, 992, .inl (bd_app fT n [q])))] H := hP
      have hD : va_D A [(h0, .inr (1, [.long seed, .ref hM, .ref hO, .int (nI cnt), .ref aS, .ref aA, .ref aB, .ref aN, .ref aM, .ref aL, .int vb, .int vs, .ref aT, .int (nI (n + 1))])), (aT, .inl (K.2.2, 992, .inl (bd_app fT n [q])))] := hD
      exact cx_vret hx hb hr hlocks hK hP hD hS d_B_writeSign_37 (rfl)
set_option maxHeartbeats 4000000 in
set_option maxRecDepth 100000 in
theorem c_B_writeDigit (l : Launch) (G : cx_G) (D : va_G) (K : cx_KT) (sz : Nat) (h0 : Nat) (seed : Int64) (hM : Nat) (hO : Nat) (cnt : Nat) (aS : Nat) (aA : Nat) (aB : Nat) (aN : Nat) (aM : Nat) (aL : Nat) (vb : Int32) (vs : Int32) (aT : Nat) (n : Nat) (fT : Nat → Int32) (q : Nat) (hn : n < 992) (hq : q < 10) : Met l y_B_writeDigit w_B_writeDigit ({ frames := 1, cells := 0, slots := 0, locals := 21 }) (cx_Pc G D (cx_ty K) [(h0, .inr (1, [.long seed, .ref hM, .ref hO, .int (nI cnt), .ref aS, .ref aA, .ref aB, .ref aN, .ref aM, .ref aL, .int vb, .int vs, .ref aT, .int (nI n)])), (aT, .inl (K.2.2, 992, .inl fT))] sz [.ref h0, .int (nI q)]) (cx_Qv D (cx_ty K) [(h0, .inr (1, [.long seed, .ref hM, .ref hO, .int (nI cnt), .ref aS, .ref aA, .ref aB, .ref aN, .ref aM, .ref aL, .int vb, .int vs, .ref aT, .int (nI (n + ([48 + q]).length))])), (aT, .inl (K.2.2, 992, .inl (bd_app fT n ([48 + q]))))] (va_A [(h0, .inr (1, [.long seed, .ref hM, .ref hO, .int (nI cnt), .ref aS, .ref aA, .ref aB, .ref aN, .ref aM, .ref aL, .int vb, .int vs, .ref aT, .int (nI n)])), (aT, .inl (K.2.2, 992, .inl fT))] sz)) 0 0 (va_A [(h0, .inr (1, [.long seed, .ref hM, .ref hO, .int (nI cnt), .ref aS, .ref aA, .ref aB, .ref aN, .ref aM, .ref aL, .int vb, .int vs, .ref aT, .int (nI n)])), (aT, .inl (K.2.2, 992, .inl fT))] sz) := by
  refine Met.ofW (cc := prog_1_method_24_code) (maxL := 2) (ret := none) (by decide) rfl ?_
  intro p e s m args below meth c s₁ B hml hv
  obtain ⟨rfl, hsz, hP, hK, hD0, hE⟩ := hv
  have hx := B.exec
  have hb := B.bytes
  have hr := B.returns
  have hts := atoms_spec (ws := w_B_writeDigit) B.pre
  have hw : ∀ w ∈ cw, w.before _ s = true := fun w h => hts w (List.mem_cons_of_mem _ h)
  have hown : s.vm.findClass "BuildDrawer" = some m.cls := findClass_of_methodNamed B.named
  have hlocks := B.notSynchronized
  subst hsz
  have hD := hD0.self (sz := s.heap.size)
  generalize hAe : va_A [(h0, .inr (1, [.long seed, .ref hM, .ref hO, .int (nI cnt), .ref aS, .ref aA, .ref aB, .ref aN, .ref aM, .ref aL, .int vb, .int vs, .ref aT, .int (nI n)])), (aT, .inl (K.2.2, 992, .inl fT))] s.heap.size = A at hD hE ⊢
  have hA : ∀ q : Nat, s.heap.size ≤ q → A q := fun q h => by rw [← hAe]; exact Or.inr h
  have hS : va_S A s.heap s.heap [] := va_S.rf
  have hl := lv_entry ([.ref h0, .int (nI q)]) (n := 2) (Nat.le_of_ble_eq_true rfl)
  rw [lg_entry_eq]
  generalize (lg_sl ([.ref h0, .int (nI q)]) ++ List.replicate (2 - (lg_sl ([.ref h0, .int (nI q)])).length) Slot.unset).toArray = ls at hl ⊢
  have hl : lv_has ls 2 [(0, .ref h0), (1, .int (nI q))] := hl
  refine lv_aload_n hx hb d_B_writeDigit_0 rfl (lv_at hl 0 rfl) ?_
  refine lv_bipush (v := 48) hx hb d_B_writeDigit_1 (by decide) ?_
  refine lv_iload_n hx hb d_B_writeDigit_3 rfl (lv_at hl 1 rfl) ?_
  refine lv_iadd hx hb d_B_writeDigit_4 ?_
  refine cx_ti (y := nI (48 + q)) (by exact nI_add 48 q) ?_
  refine lv_i2c (v := nI (48 + q)) hx hb d_B_writeDigit_5 (bd_c16 (by omega)) ?_
  refine cx_cv (wr := []) (wN := [(h0, .inr (1, [.long seed, .ref hM, .ref hO, .int (nI cnt), .ref aS, .ref aA, .ref aB, .ref aN, .ref aM, .ref aL, .int vb, .int vs, .ref aT, .int (nI (n + ([48 + q]).length))])), (aT, .inl (K.2.2, 992, .inl (bd_app fT n ([48 + q]))))]) (va_runV (As := [.int (nI (48 + q))]) (rest := []) ⟨hx, hb, hml, hown, hw⟩ (c_B_writeSign l G D K s.heap.size h0 seed hM hO cnt aS aA aB aN aM aL vb vs aT n fT (48 + q) (by omega) (by omega)) (cwV 1 hw (cx_gV k_233 k_235 ks_B_writeSign k_1 k_236) rfl rfl rfl (by decide +kernel) ⟨Nat.le_of_ble_eq_true rfl, Nat.le_of_ble_eq_true rfl⟩) (cx_preV (q0 := 0) (ci := 1) hK hP hD hS hA hE rfl rfl [0, 1] rfl rfl (by decide)) rfl rfl hl.1 rfl (lv_room (Nat.le_of_ble_eq_true rfl)) d_B_writeDigit_6 ⟨Nat.le_of_ble_eq_true rfl, Nat.le_of_ble_eq_true rfl⟩) hP hD hS hA [0, 1] [] rfl rfl (by decide) (by decide) [0, 1] rfl rfl (by decide) (fun H locs hP hD hS => ?_)
  exact cx_vret hx hb hr hlocks hK hP hD hS d_B_writeDigit_9 (rfl)
set_option maxHeartbeats 4000000 in
set_option maxRecDepth 100000 in
theorem c_B_writeNumber (l : Launch) (G : cx_G) (D : va_G) (K : cx_KT) (sz : Nat) (h0 : Nat) (seed : Int64) (hM : Nat) (hO : Nat) (cnt : Nat) (aS : Nat) (aA : Nat) (aB : Nat) (aN : Nat) (aM : Nat) (aL : Nat) (vb : Int32) (vs : Int32) (aT : Nat) (n : Nat) (fT : Nat → Int32) (q : Nat) (hn : n + 3 ≤ 992) (hq : q < 1000) : Met l y_B_writeNumber w_B_writeNumber ({ frames := 2, cells := 0, slots := 0, locals := 42 }) (cx_Pc G D (cx_ty K) [(h0, .inr (1, [.long seed, .ref hM, .ref hO, .int (nI cnt), .ref aS, .ref aA, .ref aB, .ref aN, .ref aM, .ref aL, .int vb, .int vs, .ref aT, .int (nI n)])), (aT, .inl (K.2.2, 992, .inl fT))] sz [.ref h0, .int (nI q)]) (cx_Qv D (cx_ty K) [(h0, .inr (1, [.long seed, .ref hM, .ref hO, .int (nI cnt), .ref aS, .ref aA, .ref aB, .ref aN, .ref aM, .ref aL, .int vb, .int vs, .ref aT, .int (nI (n + (bd_dg q).length))])), (aT, .inl (K.2.2, 992, .inl (bd_app fT n (bd_dg q))))] (va_A [(h0, .inr (1, [.long seed, .ref hM, .ref hO, .int (nI cnt), .ref aS, .ref aA, .ref aB, .ref aN, .ref aM, .ref aL, .int vb, .int vs, .ref aT, .int (nI n)])), (aT, .inl (K.2.2, 992, .inl fT))] sz)) 0 0 (va_A [(h0, .inr (1, [.long seed, .ref hM, .ref hO, .int (nI cnt), .ref aS, .ref aA, .ref aB, .ref aN, .ref aM, .ref aL, .int vb, .int vs, .ref aT, .int (nI n)])), (aT, .inl (K.2.2, 992, .inl fT))] sz) := by
  refine Met.ofW (cc := prog_1_method_23_code) (maxL := 2) (ret := none) (by decide) rfl ?_
  intro p e s m args below meth c s₁ B hml hv
  obtain ⟨rfl, hsz, hP, hK, hD0, hE⟩ := hv
  have hx := B.exec
  have hb := B.bytes
  have hr := B.returns
  have hts := atoms_spec (ws := w_B_writeNumber) B.pre
  have hw : ∀ w ∈ cw, w.before _ s = true := fun w h => hts w (List.mem_cons_of_mem _ h)
  have hown : s.vm.findClass "BuildDrawer" = some m.cls := findClass_of_methodNamed B.named
  have hlocks := B.notSynchronized
  subst hsz
  have hD := hD0.self (sz := s.heap.size)
  generalize hAe : va_A [(h0, .inr (1, [.long seed, .ref hM, .ref hO, .int (nI cnt), .ref aS, .ref aA, .ref aB, .ref aN, .ref aM, .ref aL, .int vb, .int vs, .ref aT, .int (nI n)])), (aT, .inl (K.2.2, 992, .inl fT))] s.heap.size = A at hD hE ⊢
  have hA : ∀ q : Nat, s.heap.size ≤ q → A q := fun q h => by rw [← hAe]; exact Or.inr h
  have hS : va_S A s.heap s.heap [] := va_S.rf
  have hl := lv_entry ([.ref h0, .int (nI q)]) (n := 2) (Nat.le_of_ble_eq_true rfl)
  rw [lg_entry_eq]
  generalize (lg_sl ([.ref h0, .int (nI q)]) ++ List.replicate (2 - (lg_sl ([.ref h0, .int (nI q)])).length) Slot.unset).toArray = ls at hl ⊢
  have hl : lv_has ls 2 [(0, .ref h0), (1, .int (nI q))] := hl
  refine lv_iload_n hx hb d_B_writeNumber_0 rfl (lv_at hl 1 rfl) ?_
  refine lv_bipush (v := 100) hx hb d_B_writeNumber_1 (by decide) ?_
  refine lv_icmp_lt (tgt := 14) hx hb d_B_writeNumber_3 (by decide) (fun r_3 => ?_) (fun r_3 => ?_)
  · have c_3 := (nI_ltI (a := q) (b := 100) (by omega) (by omega)).mp r_3
    refine lv_iload_n hx hb d_B_writeNumber_14 rfl (lv_at hl 1 rfl) ?_
    refine lv_bipush (v := 10) hx hb d_B_writeNumber_15 (by decide) ?_
    refine lv_icmp_lt (tgt := 31) hx hb d_B_writeNumber_17 (by decide) (fun r_17 => ?_) (fun r_17 => ?_)
    · have c_17 := (nI_ltI (a := q) (b := 10) (by omega) (by omega)).mp r_17
      refine lv_aload_n hx hb d_B_writeNumber_31 rfl (lv_at hl 0 rfl) ?_
      refine lv_iload_n hx hb d_B_writeNumber_32 rfl (lv_at hl 1 rfl) ?_
      refine lv_bipush (v := 10) hx hb d_B_writeNumber_33 (by decide) ?_
      refine lv_irem hx hb d_B_writeNumber_35 (by decide) ?_
      refine cx_ti (y := nI (q % 10)) (by exact pk_rem (a := q) (d := 10) (by omega) (by omega) (by omega)) ?_
      refine cx_cv (wr := []) (wN := [(h0, .inr (1, [.long seed, .ref hM, .ref hO, .int (nI cnt), .ref aS, .ref aA, .ref aB, .ref aN, .ref aM, .ref aL, .int vb, .int vs, .ref aT, .int (nI (n + ([48 + (q % 10)]).length))])), (aT, .inl (K.2.2, 992, .inl (bd_app fT n ([48 + (q % 10)]))))]) (va_runV (As := [.int (nI (q % 10))]) (rest := []) ⟨hx, hb, hml, hown, hw⟩ (c_B_writeDigit l G D K s.heap.size h0 seed hM hO cnt aS aA aB aN aM aL vb vs aT n fT (q % 10) (by omega) (by omega)) (cwV 1 hw (cx_gV k_241 k_243 ks_B_writeDigit k_1 k_244) rfl rfl rfl (by decide +kernel) ⟨Nat.le_of_ble_eq_true rfl, Nat.le_of_ble_eq_true rfl⟩) (cx_preV (q0 := 0) (ci := 1) hK hP hD hS hA hE rfl rfl [0, 1] rfl rfl (by decide)) rfl rfl hl.1 rfl (lv_room (Nat.le_of_ble_eq_true rfl)) d_B_writeNumber_36 ⟨Nat.le_of_ble_eq_true rfl, Nat.le_of_ble_eq_true rfl⟩) hP hD hS hA [0, 1] [] rfl rfl (by decide) (by decide) [0, 1] rfl rfl (by decide) (fun H locs hP hD hS => ?_)
      have hP : va_P D vwCl [(h0, .inr (1, [.long seed, .ref hM, .ref hO, .int (nI cnt), .ref aS, .ref aA, .ref aB, .ref aN, .ref aM, .ref aL, .int vb, .int vs, .ref aT, .int (nI (n + ([48 + (q % 10)]).length))])), (aT, .inl (K.2.2, 992, .inl (bd_app fT n ([48 + (q % 10)]))))] H := hP
      have hD : va_D A [(h0, .inr (1, [.long seed, .ref hM, .ref hO, .int (nI cnt), .ref aS, .ref aA, .ref aB, .ref aN, .ref aM, .ref aL, .int vb, .int vs, .ref aT, .int (nI (n + ([48 + (q % 10)]).length))])), (aT, .inl (K.2.2, 992, .inl (bd_app fT n ([48 + (q % 10)]))))] := hD
      exact cx_vret hx hb hr hlocks hK hP hD hS d_B_writeNumber_39 (by rw [show bd_dg q = [48 + (q % 10)] by rw [bd_dg, if_pos c_3, if_pos c_17]])
    · have c_17 := mt (nI_ltI (a := q) (b := 10) (by omega) (by omega)).mpr r_17
      refine lv_aload_n hx hb d_B_writeNumber_20 rfl (lv_at hl 0 rfl) ?_
      refine lv_iload_n hx hb d_B_writeNumber_21 rfl (lv_at hl 1 rfl) ?_
      refine lv_bipush (v := 10) hx hb d_B_writeNumber_22 (by decide) ?_
      refine lv_idiv hx hb d_B_writeNumber_24 (by decide) ?_
      refine cx_ti (y := nI (q / 10)) (by exact pk_div (a := q) (d := 10) (by omega) (by omega) (by omega)) ?_
      refine lv_bipush (v := 10) hx hb d_B_writeNumber_25 (by decide) ?_
      refine lv_irem hx hb d_B_writeNumber_27 (by decide) ?_
      refine cx_ti (y := nI (q / 10 % 10)) (by exact pk_rem (a := q / 10) (d := 10) (by omega) (by omega) (by omega)) ?_
      refine cx_cv (wr := []) (wN := [(h0, .inr (1, [.long seed, .ref hM, .ref hO, .int (nI cnt), .ref aS, .ref aA, .ref aB, .ref aN, .ref aM, .ref aL, .int vb, .int vs, .ref aT, .int (nI (n + ([48 + (q / 10 % 10)]).length))])), (aT, .inl (K.2.2, 992, .inl (bd_app fT n ([48 + (q / 10 % 10)]))))]) (va_runV (As := [.int (nI (q / 10 % 10))]) (rest := []) ⟨hx, hb, hml, hown, hw⟩ (c_B_writeDigit l G D K s.heap.size h0 seed hM hO cnt aS aA aB aN aM aL vb vs aT n fT (q / 10 % 10) (by omega) (by omega)) (cwV 1 hw (cx_gV k_241 k_243 ks_B_writeDigit k_1 k_244) rfl rfl rfl (by decide +kernel) ⟨Nat.le_of_ble_eq_true rfl, Nat.le_of_ble_eq_true rfl⟩) (cx_preV (q0 := 0) (ci := 1) hK hP hD hS hA hE rfl rfl [0, 1] rfl rfl (by decide)) rfl rfl hl.1 rfl (lv_room (Nat.le_of_ble_eq_true rfl)) d_B_writeNumber_28 ⟨Nat.le_of_ble_eq_true rfl, Nat.le_of_ble_eq_true rfl⟩) hP hD hS hA [0, 1] [] rfl rfl (by decide) (by decide) [0, 1] rfl rfl (by decide) (fun H locs hP hD hS => ?_)
      have hP : va_P D vwCl [(h0, .inr (1, [.long seed, .ref hM, .ref hO, .int (nI cnt), .ref aS, .ref aA, .ref aB, .ref aN, .ref aM, .ref aL, .int vb, .int vs, .ref aT, .int (nI (n + ([48 + (q / 10 % 10)]).length))])), (aT, .inl (K.2.2, 992, .inl (bd_app fT n ([48 + (q / 10 % 10)]))))] H := hP
      have hD : va_D A [(h0, .inr (1, [.long seed, .ref hM, .ref hO, .int (nI cnt), .ref aS, .ref aA, .ref aB, .ref aN, .ref aM, .ref aL, .int vb, .int vs, .ref aT, .int (nI (n + ([48 + (q / 10 % 10)]).length))])), (aT, .inl (K.2.2, 992, .inl (bd_app fT n ([48 + (q / 10 % 10)]))))] := hD
      refine lv_aload_n hx hb d_B_writeNumber_31 rfl (lv_at hl 0 rfl) ?_
      refine lv_iload_n hx hb d_B_writeNumber_32 rfl (lv_at hl 1 rfl) ?_
      refine lv_bipush (v := 10) hx hb d_B_writeNumber_33 (by decide) ?_
      refine lv_irem hx hb d_B_writeNumber_35 (by decide) ?_
      refine cx_ti (y := nI (q % 10)) (by exact pk_rem (a := q) (d := 10) (by omega) (by omega) (by omega)) ?_
      refine cx_cv (wr := []) (wN := [(h0, .inr (1, [.long seed, .ref hM, .ref hO, .int (nI cnt), .ref aS, .ref aA, .ref aB, .ref aN, .ref aM, .ref aL, .int vb, .int vs, .ref aT, .int (nI (n + ([48 + (q / 10 % 10)]).length + ([48 + (q % 10)]).length))])), (aT, .inl (K.2.2, 992, .inl (bd_app (bd_app fT n ([48 + (q / 10 % 10)])) (n + ([48 + (q / 10 % 10)]).length) ([48 + (q % 10)]))))]) (va_runV (As := [.int (nI (q % 10))]) (rest := []) ⟨hx, hb, hml, hown, hw⟩ (c_B_writeDigit l G D K H.size h0 seed hM hO cnt aS aA aB aN aM aL vb vs aT (n + ([48 + (q / 10 % 10)]).length) (bd_app fT n ([48 + (q / 10 % 10)])) (q % 10) (by simp only [List.length_append, List.length_cons, List.length_nil]; omega) (by omega)) (cwV 1 hw (cx_gV k_241 k_243 ks_B_writeDigit k_1 k_244) rfl rfl rfl (by decide +kernel) ⟨Nat.le_of_ble_eq_true rfl, Nat.le_of_ble_eq_true rfl⟩) (cx_preV (q0 := 0) (ci := 1) hK hP hD hS hA hE rfl rfl [0, 1] rfl rfl (by decide)) rfl rfl hl.1 rfl (lv_room (Nat.le_of_ble_eq_true rfl)) d_B_writeNumber_36 ⟨Nat.le_of_ble_eq_true rfl, Nat.le_of_ble_eq_true rfl⟩) hP hD hS hA [0, 1] [] rfl rfl (by decide) (by decide) [0, 1] rfl rfl (by decide) (fun H locs hP hD hS => ?_)
      rw [bd_app_app, bd_tl] at hP hD
      have hP : va_P D vwCl [(h0, .inr (1, [.long seed, .ref hM, .ref hO, .int (nI cnt), .ref aS, .ref aA, .ref aB, .ref aN, .ref aM, .ref aL, .int vb, .int vs, .ref aT, .int (nI (n + ([48 + (q / 10 % 10)] ++ [48 + (q % 10)]).length))])), (aT, .inl (K.2.2, 992, .inl (bd_app fT n ([48 + (q / 10 % 10)] ++ [48 + (q % 10)]))))] H := hP
      have hD : va_D A [(h0, .inr (1, [.long seed, .ref hM, .ref hO, .int (nI cnt), .ref aS, .ref aA, .ref aB, .ref aN, .ref aM, .ref aL, .int vb, .int vs, .ref aT, .int (nI (n + ([48 + (q / 10 % 10)] ++ [48 + (q % 10)]).length))])), (aT, .inl (K.2.2, 992, .inl (bd_app fT n ([48 + (q / 10 % 10)] ++ [48 + (q % 10)]))))] := hD
      exact cx_vret hx hb hr hlocks hK hP hD hS d_B_writeNumber_39 (by rw [show bd_dg q = [48 + (q / 10 % 10)] ++ [48 + (q % 10)] by rw [bd_dg, if_pos c_3, if_neg c_17]])
  · have c_3 := mt (nI_ltI (a := q) (b := 100) (by omega) (by omega)).mpr r_3
    refine lv_aload_n hx hb d_B_writeNumber_6 rfl (lv_at hl 0 rfl) ?_
    refine lv_iload_n hx hb d_B_writeNumber_7 rfl (lv_at hl 1 rfl) ?_
    refine lv_bipush (v := 100) hx hb d_B_writeNumber_8 (by decide) ?_
    refine lv_idiv hx hb d_B_writeNumber_10 (by decide) ?_
    refine cx_ti (y := nI (q / 100)) (by exact pk_div (a := q) (d := 100) (by omega) (by omega) (by omega)) ?_
    refine cx_cv (wr := []) (wN := [(h0, .inr (1, [.long seed, .ref hM, .ref hO, .int (nI cnt), .ref aS, .ref aA, .ref aB, .ref aN, .ref aM, .ref aL, .int vb, .int vs, .ref aT, .int (nI (n + ([48 + (q / 100)]).length))])), (aT, .inl (K.2.2, 992, .inl (bd_app fT n ([48 + (q / 100)]))))]) (va_runV (As := [.int (nI (q / 100))]) (rest := []) ⟨hx, hb, hml, hown, hw⟩ (c_B_writeDigit l G D K s.heap.size h0 seed hM hO cnt aS aA aB aN aM aL vb vs aT n fT (q / 100) (by omega) (by omega)) (cwV 1 hw (cx_gV k_241 k_243 ks_B_writeDigit k_1 k_244) rfl rfl rfl (by decide +kernel) ⟨Nat.le_of_ble_eq_true rfl, Nat.le_of_ble_eq_true rfl⟩) (cx_preV (q0 := 0) (ci := 1) hK hP hD hS hA hE rfl rfl [0, 1] rfl rfl (by decide)) rfl rfl hl.1 rfl (lv_room (Nat.le_of_ble_eq_true rfl)) d_B_writeNumber_11 ⟨Nat.le_of_ble_eq_true rfl, Nat.le_of_ble_eq_true rfl⟩) hP hD hS hA [0, 1] [] rfl rfl (by decide) (by decide) [0, 1] rfl rfl (by decide) (fun H locs hP hD hS => ?_)
    have hP : va_P D vwCl [(h0, .inr (1, [.long seed, .ref hM, .ref hO, .int (nI cnt), .ref aS, .ref aA, .ref aB, .ref aN, .ref aM, .ref aL, .int vb, .int vs, .ref aT, .int (nI (n + ([48 + (q / 100)]).length))])), (aT, .inl (K.2.2, 992, .inl (bd_app fT n ([48 + (q / 100)]))))] H := hP
    have hD : va_D A [(h0, .inr (1, [.long seed, .ref hM, .ref hO, .int (nI cnt), .ref aS, .ref aA, .ref aB, .ref aN, .ref aM, .ref aL, .int vb, .int vs, .ref aT, .int (nI (n + ([48 + (q / 100)]).length))])), (aT, .inl (K.2.2, 992, .inl (bd_app fT n ([48 + (q / 100)]))))] := hD
    refine lv_iload_n hx hb d_B_writeNumber_14 rfl (lv_at hl 1 rfl) ?_
    refine lv_bipush (v := 10) hx hb d_B_writeNumber_15 (by decide) ?_
    refine lv_icmp_lt (tgt := 31) hx hb d_B_writeNumber_17 (by decide) (fun r_17 => ?_) (fun r_17 => ?_)
    · have c_17 := (nI_ltI (a := q) (b := 10) (by omega) (by omega)).mp r_17
      omega
    · have c_17 := mt (nI_ltI (a := q) (b := 10) (by omega) (by omega)).mpr r_17
      refine lv_aload_n hx hb d_B_writeNumber_20 rfl (lv_at hl 0 rfl) ?_
      refine lv_iload_n hx hb d_B_writeNumber_21 rfl (lv_at hl 1 rfl) ?_
      refine lv_bipush (v := 10) hx hb d_B_writeNumber_22 (by decide) ?_
      refine lv_idiv hx hb d_B_writeNumber_24 (by decide) ?_
      refine cx_ti (y := nI (q / 10)) (by exact pk_div (a := q) (d := 10) (by omega) (by omega) (by omega)) ?_
      refine lv_bipush (v := 10) hx hb d_B_writeNumber_25 (by decide) ?_
      refine lv_irem hx hb d_B_writeNumber_27 (by decide) ?_
      refine cx_ti (y := nI (q / 10 % 10)) (by exact pk_rem (a := q / 10) (d := 10) (by omega) (by omega) (by omega)) ?_
      refine cx_cv (wr := []) (wN := [(h0, .inr (1, [.long seed, .ref hM, .ref hO, .int (nI cnt), .ref aS, .ref aA, .ref aB, .ref aN, .ref aM, .ref aL, .int vb, .int vs, .ref aT, .int (nI (n + ([48 + (q / 100)]).length + ([48 + (q / 10 % 10)]).length))])), (aT, .inl (K.2.2, 992, .inl (bd_app (bd_app fT n ([48 + (q / 100)])) (n + ([48 + (q / 100)]).length) ([48 + (q / 10 % 10)]))))]) (va_runV (As := [.int (nI (q / 10 % 10))]) (rest := []) ⟨hx, hb, hml, hown, hw⟩ (c_B_writeDigit l G D K H.size h0 seed hM hO cnt aS aA aB aN aM aL vb vs aT (n + ([48 + (q / 100)]).length) (bd_app fT n ([48 + (q / 100)])) (q / 10 % 10) (by simp only [List.length_append, List.length_cons, List.length_nil]; omega) (by omega)) (cwV 1 hw (cx_gV k_241 k_243 ks_B_writeDigit k_1 k_244) rfl rfl rfl (by decide +kernel) ⟨Nat.le_of_ble_eq_true rfl, Nat.le_of_ble_eq_true rfl⟩) (cx_preV (q0 := 0) (ci := 1) hK hP hD hS hA hE rfl rfl [0, 1] rfl rfl (by decide)) rfl rfl hl.1 rfl (lv_room (Nat.le_of_ble_eq_true rfl)) d_B_writeNumber_28 ⟨Nat.le_of_ble_eq_true rfl, Nat.le_of_ble_eq_true rfl⟩) hP hD hS hA [0, 1] [] rfl rfl (by decide) (by decide) [0, 1] rfl rfl (by decide) (fun H locs hP hD hS => ?_)
      rw [bd_app_app, bd_tl] at hP hD
      have hP : va_P D vwCl [(h0, .inr (1, [.long seed, .ref hM, .ref hO, .int (nI cnt), .ref aS, .ref aA, .ref aB, .ref aN, .ref aM, .ref aL, .int vb, .int vs, .ref aT, .int (nI (n + ([48 + (q / 100)] ++ [48 + (q / 10 % 10)]).length))])), (aT, .inl (K.2.2, 992, .inl (bd_app fT n ([48 + (q / 100)] ++ [48 + (q / 10 % 10)]))))] H := hP
      have hD : va_D A [(h0, .inr (1, [.long seed, .ref hM, .ref hO, .int (nI cnt), .ref aS, .ref aA, .ref aB, .ref aN, .ref aM, .ref aL, .int vb, .int vs, .ref aT, .int (nI (n + ([48 + (q / 100)] ++ [48 + (q / 10 % 10)]).length))])), (aT, .inl (K.2.2, 992, .inl (bd_app fT n ([48 + (q / 100)] ++ [48 + (q / 10 % 10)]))))] := hD
      refine lv_aload_n hx hb d_B_writeNumber_31 rfl (lv_at hl 0 rfl) ?_
      refine lv_iload_n hx hb d_B_writeNumber_32 rfl (lv_at hl 1 rfl) ?_
      refine lv_bipush (v := 10) hx hb d_B_writeNumber_33 (by decide) ?_
      refine lv_irem hx hb d_B_writeNumber_35 (by decide) ?_
      refine cx_ti (y := nI (q % 10)) (by exact pk_rem (a := q) (d := 10) (by omega) (by omega) (by omega)) ?_
      refine cx_cv (wr := []) (wN := [(h0, .inr (1, [.long seed, .ref hM, .ref hO, .int (nI cnt), .ref aS, .ref aA, .ref aB, .ref aN, .ref aM, .ref aL, .int vb, .int vs, .ref aT, .int (nI (n + ([48 + (q / 100)] ++ [48 + (q / 10 % 10)]).length + ([48 + (q % 10)]).length))])), (aT, .inl (K.2.2, 992, .inl (bd_app (bd_app fT n ([48 + (q / 100)] ++ [48 + (q / 10 % 10)])) (n + ([48 + (q / 100)] ++ [48 + (q / 10 % 10)]).length) ([48 + (q % 10)]))))]) (va_runV (As := [.int (nI (q % 10))]) (rest := []) ⟨hx, hb, hml, hown, hw⟩ (c_B_writeDigit l G D K H.size h0 seed hM hO cnt aS aA aB aN aM aL vb vs aT (n + ([48 + (q / 100)] ++ [48 + (q / 10 % 10)]).length) (bd_app fT n ([48 + (q / 100)] ++ [48 + (q / 10 % 10)])) (q % 10) (by simp only [List.length_append, List.length_cons, List.length_nil]; omega) (by omega)) (cwV 1 hw (cx_gV k_241 k_243 ks_B_writeDigit k_1 k_244) rfl rfl rfl (by decide +kernel) ⟨Nat.le_of_ble_eq_true rfl, Nat.le_of_ble_eq_true rfl⟩) (cx_preV (q0 := 0) (ci := 1) hK hP hD hS hA hE rfl rfl [0, 1] rfl rfl (by decide)) rfl rfl hl.1 rfl (lv_room (Nat.le_of_ble_eq_true rfl)) d_B_writeNumber_36 ⟨Nat.le_of_ble_eq_true rfl, Nat.le_of_ble_eq_true rfl⟩) hP hD hS hA [0, 1] [] rfl rfl (by decide) (by decide) [0, 1] rfl rfl (by decide) (fun H locs hP hD hS => ?_)
      rw [bd_app_app, bd_tl] at hP hD
      have hP : va_P D vwCl [(h0, .inr (1, [.long seed, .ref hM, .ref hO, .int (nI cnt), .ref aS, .ref aA, .ref aB, .ref aN, .ref aM, .ref aL, .int vb, .int vs, .ref aT, .int (nI (n + ([48 + (q / 100)] ++ [48 + (q / 10 % 10)] ++ [48 + (q % 10)]).length))])), (aT, .inl (K.2.2, 992, .inl (bd_app fT n ([48 + (q / 100)] ++ [48 + (q / 10 % 10)] ++ [48 + (q % 10)]))))] H := hP
      have hD : va_D A [(h0, .inr (1, [.long seed, .ref hM, .ref hO, .int (nI cnt), .ref aS, .ref aA, .ref aB, .ref aN, .ref aM, .ref aL, .int vb, .int vs, .ref aT, .int (nI (n + ([48 + (q / 100)] ++ [48 + (q / 10 % 10)] ++ [48 + (q % 10)]).length))])), (aT, .inl (K.2.2, 992, .inl (bd_app fT n ([48 + (q / 100)] ++ [48 + (q / 10 % 10)] ++ [48 + (q % 10)]))))] := hD
      exact cx_vret hx hb hr hlocks hK hP hD hS d_B_writeNumber_39 (by rw [show bd_dg q = [48 + (q / 100)] ++ [48 + (q / 10 % 10)] ++ [48 + (q % 10)] by rw [bd_dg, if_neg c_3]])
set_option maxHeartbeats 4000000 in
set_option maxRecDepth 100000 in
theorem c_B_writePart (l : Launch) (G : cx_G) (D : va_G) (K : cx_KT) (sz : Nat) (h0 : Nat) (seed : Int64) (hM : Nat) (hO : Nat) (cnt : Nat) (aS : Nat) (aA : Nat) (aB : Nat) (aN : Nat) (aM : Nat) (aL : Nat) (vb : Int32) (vs : Int32) (aT : Nat) (n : Nat) (fS : Nat → Int32) (fA : Nat → Int32) (fB : Nat → Int32) (fN : Nat → Int32) (fT : Nat → Int32) (k : Nat) (hcnt : cnt ≤ 62) (hk : k < cnt) (hn : n + 16 ≤ 992) (hok : bd_ok (fS k) (fA k) (fB k) (fN k)) : Met l y_B_writePart w_B_writePart ({ frames := 5, cells := 0, slots := 0, locals := 105 }) (cx_Pc G D (cx_ty K) [(h0, .inr (1, [.long seed, .ref hM, .ref hO, .int (nI cnt), .ref aS, .ref aA, .ref aB, .ref aN, .ref aM, .ref aL, .int vb, .int vs, .ref aT, .int (nI n)])), (aS, .inl (K.1, 62, .inl fS)), (aA, .inl (K.1, 62, .inl fA)), (aB, .inl (K.1, 62, .inl fB)), (aN, .inl (K.1, 62, .inl fN)), (aT, .inl (K.2.2, 992, .inl fT))] sz [.ref h0, .int (nI k)]) (cx_Qv D (cx_ty K) [(h0, .inr (1, [.long seed, .ref hM, .ref hO, .int (nI cnt), .ref aS, .ref aA, .ref aB, .ref aN, .ref aM, .ref aL, .int vb, .int vs, .ref aT, .int (nI (n + (bd_pt k (fS k) (fA k) (fB k) (fN k)).length))])), (aS, .inl (K.1, 62, .inl fS)), (aA, .inl (K.1, 62, .inl fA)), (aB, .inl (K.1, 62, .inl fB)), (aN, .inl (K.1, 62, .inl fN)), (aT, .inl (K.2.2, 992, .inl (bd_app fT n (bd_pt k (fS k) (fA k) (fB k) (fN k)))))] (va_A [(h0, .inr (1, [.long seed, .ref hM, .ref hO, .int (nI cnt), .ref aS, .ref aA, .ref aB, .ref aN, .ref aM, .ref aL, .int vb, .int vs, .ref aT, .int (nI n)])), (aS, .inl (K.1, 62, .inl fS)), (aA, .inl (K.1, 62, .inl fA)), (aB, .inl (K.1, 62, .inl fB)), (aN, .inl (K.1, 62, .inl fN)), (aT, .inl (K.2.2, 992, .inl fT))] sz)) 0 0 (va_A [(h0, .inr (1, [.long seed, .ref hM, .ref hO, .int (nI cnt), .ref aS, .ref aA, .ref aB, .ref aN, .ref aM, .ref aL, .int vb, .int vs, .ref aT, .int (nI n)])), (aS, .inl (K.1, 62, .inl fS)), (aA, .inl (K.1, 62, .inl fA)), (aB, .inl (K.1, 62, .inl fB)), (aN, .inl (K.1, 62, .inl fN)), (aT, .inl (K.2.2, 992, .inl fT))] sz) := by
  refine Met.ofW (cc := prog_1_method_21_code) (maxL := 2) (ret := none) (by decide) rfl ?_
  intro p e s m args below meth c s₁ B hml hv
  obtain ⟨rfl, hsz, hP, hK, hD0, hE⟩ := hv
  have hx := B.exec
  have hb := B.bytes
  have hr := B.returns
  have hts := atoms_spec (ws := w_B_writePart) B.pre
  have hw : ∀ w ∈ cw, w.before _ s = true := fun w h => hts w (List.mem_cons_of_mem _ h)
  have hown : s.vm.findClass "BuildDrawer" = some m.cls := findClass_of_methodNamed B.named
  have hlocks := B.notSynchronized
  subst hsz
  have hD := hD0.self (sz := s.heap.size)
  generalize hAe : va_A [(h0, .inr (1, [.long seed, .ref hM, .ref hO, .int (nI cnt), .ref aS, .ref aA, .ref aB, .ref aN, .ref aM, .ref aL, .int vb, .int vs, .ref aT, .int (nI n)])), (aS, .inl (K.1, 62, .inl fS)), (aA, .inl (K.1, 62, .inl fA)), (aB, .inl (K.1, 62, .inl fB)), (aN, .inl (K.1, 62, .inl fN)), (aT, .inl (K.2.2, 992, .inl fT))] s.heap.size = A at hD hE ⊢
  have hA : ∀ q : Nat, s.heap.size ≤ q → A q := fun q h => by rw [← hAe]; exact Or.inr h
  have hS : va_S A s.heap s.heap [] := va_S.rf
  have hl := lv_entry ([.ref h0, .int (nI k)]) (n := 2) (Nat.le_of_ble_eq_true rfl)
  rw [lg_entry_eq]
  generalize (lg_sl ([.ref h0, .int (nI k)]) ++ List.replicate (2 - (lg_sl ([.ref h0, .int (nI k)])).length) Slot.unset).toArray = ls at hl ⊢
  have hl : lv_has ls 2 [(0, .ref h0), (1, .int (nI k))] := hl
  obtain ⟨⟨s9, hs9, hs⟩, ⟨a9, hla, ha9⟩, ⟨b9, hlb, hb9⟩, hn8⟩ := hok
  have hlt_s : s9 < 2 ^ 31 := by omega
  have hlt_a : a9 < 2 ^ 31 := by omega
  have hlt_b : b9 < 2 ^ 31 := by omega
  have hg1 := bd_dg2 (q := k) (by omega)
  have hg2 := bd_dg3 a9
  have hg3 := bd_dg3 b9
  refine lv_aload_n hx hb d_B_writePart_0 rfl (lv_at hl 0 rfl) ?_
  refine lv_iload_n hx hb d_B_writePart_1 rfl (lv_at hl 1 rfl) ?_
  refine cx_ci (wr := [(aS, .inl (K.1, 62, .inl fS)), (aA, .inl (K.1, 62, .inl fA)), (aB, .inl (K.1, 62, .inl fB)), (aN, .inl (K.1, 62, .inl fN)), (aT, .inl (K.2.2, 992, .inl fT))]) (wN := [(h0, .inr (1, [.long seed, .ref hM, .ref hO, .int (nI cnt), .ref aS, .ref aA, .ref aB, .ref aN, .ref aM, .ref aL, .int vb, .int vs, .ref aT, .int (nI n)])), (aS, .inl (K.1, 62, .inl fS)), (aA, .inl (K.1, 62, .inl fA)), (aB, .inl (K.1, 62, .inl fB)), (aN, .inl (K.1, 62, .inl fN)), (aT, .inl (K.2.2, 992, .inl fT))]) (va_runV (As := [.int (nI k)]) (rest := []) ⟨hx, hb, hml, hown, hw⟩ (c_B_isPart l G D K s.heap.size h0 seed hM hO cnt aS aA aB aN aM aL vb vs aT (nI n) (nI k)) (cwV 1 hw (cx_gV k_153 k_155 ks_B_isPart k_1 k_156) rfl rfl rfl (by decide +kernel) ⟨Nat.le_of_ble_eq_true rfl, Nat.le_of_ble_eq_true rfl⟩) (cx_preV (q0 := 0) (ci := 1) hK hP hD hS hA hE rfl rfl [0] rfl rfl (by decide)) rfl rfl hl.1 rfl (lv_room (Nat.le_of_ble_eq_true rfl)) d_B_writePart_2 ⟨Nat.le_of_ble_eq_true rfl, Nat.le_of_ble_eq_true rfl⟩) hP hD hS hA [0] [1, 2, 3, 4, 5] rfl rfl (by decide) (by decide) [5, 0, 1, 2, 3, 4] rfl rfl (by decide) (fun H locs hP hD hS => ?_)
  refine cx_ti (y := 1) (bd_ip_in hcnt hk) ?_
  refine lv_if_ne (tgt := 9) hx hb d_B_writePart_5 (by decide) (fun r_5 => ?_) (fun r_5 => ?_)
  · have c_5 := r_5
    refine lv_aload_n hx hb d_B_writePart_9 rfl (lv_at hl 0 rfl) ?_
    refine lv_aload_n hx hb d_B_writePart_10 rfl (lv_at hl 0 rfl) ?_
    refine va_get (D := D) (ci := 1) (v := .ref aS) (C := "BuildDrawer") (T := TB) (N := 14) hx hb hw inB hown hK hP 0 rfl rfl 4 (by decide) (hw _ k_60) (fun _ h9 => h9) rfl d_B_writePart_11 ?_
    refine lv_iload_n hx hb d_B_writePart_14 rfl (lv_at hl 1 rfl) ?_
    refine va_iald hx hb hK hP 1 0 rfl rfl (vp_in_nI (n := k) (by omega) (by omega)) d_B_writePart_15 ?_
    refine cx_ti (y := nI s9) (by rw [nI_clamp (by omega)]; exact hs) ?_
    refine cx_ci (wr := [(h0, .inr (1, [.long seed, .ref hM, .ref hO, .int (nI cnt), .ref aS, .ref aA, .ref aB, .ref aN, .ref aM, .ref aL, .int vb, .int vs, .ref aT, .int (nI n)])), (aS, .inl (K.1, 62, .inl fS)), (aA, .inl (K.1, 62, .inl fA)), (aB, .inl (K.1, 62, .inl fB)), (aN, .inl (K.1, 62, .inl fN)), (aT, .inl (K.2.2, 992, .inl fT))]) (wN := [(h0, .inr (1, [.long seed, .ref hM, .ref hO, .int (nI cnt), .ref aS, .ref aA, .ref aB, .ref aN, .ref aM, .ref aL, .int vb, .int vs, .ref aT, .int (nI n)])), (aS, .inl (K.1, 62, .inl fS)), (aA, .inl (K.1, 62, .inl fA)), (aB, .inl (K.1, 62, .inl fB)), (aN, .inl (K.1, 62, .inl fN)), (aT, .inl (K.2.2, 992, .inl fT))]) (va_runS (As := [.int (nI s9)]) (rest := [.ref h0]) ⟨hx, hb, hml, hown, hw⟩ (c_B_letterOf l G D K H.size s9 (by omega)) (va_cwS 1 hw (cx_gS k_181 k_182 k_1 k_183) rfl rfl rfl (by decide +kernel) ⟨Nat.le_of_ble_eq_true rfl, Nat.le_of_ble_eq_true rfl⟩) (cx_pre hK hP hD hS hA hE [] rfl rfl (by decide)) rfl rfl hl.1 rfl (lv_room (Nat.le_of_ble_eq_true rfl)) d_B_writePart_16 ⟨Nat.le_of_ble_eq_true rfl, Nat.le_of_ble_eq_true rfl⟩) hP hD hS hA [] [0, 1, 2, 3, 4, 5] rfl rfl (by decide) (by decide) [0, 1, 2, 3, 4, 5] rfl rfl (by decide) (fun H locs hP hD hS => ?_)
    refine cx_cv (wr := [(aS, .inl (K.1, 62, .inl fS)), (aA, .inl (K.1, 62, .inl fA)), (aB, .inl (K.1, 62, .inl fB)), (aN, .inl (K.1, 62, .inl fN))]) (wN := [(h0, .inr (1, [.long seed, .ref hM, .ref hO, .int (nI cnt), .ref aS, .ref aA, .ref aB, .ref aN, .ref aM, .ref aL, .int vb, .int vs, .ref aT, .int (nI (n + ([bd_ltN s9]).length))])), (aS, .inl (K.1, 62, .inl fS)), (aA, .inl (K.1, 62, .inl fA)), (aB, .inl (K.1, 62, .inl fB)), (aN, .inl (K.1, 62, .inl fN)), (aT, .inl (K.2.2, 992, .inl (bd_app fT n ([bd_ltN s9]))))]) (va_runV (As := [.int (nI (bd_ltN s9))]) (rest := []) ⟨hx, hb, hml, hown, hw⟩ (c_B_writeSign l G D K H.size h0 seed hM hO cnt aS aA aB aN aM aL vb vs aT n fT (bd_ltN s9) (by omega) (by first | omega | (have := bd_ltL s9 hs9; omega))) (cwV 1 hw (cx_gV k_233 k_235 ks_B_writeSign k_1 k_236) rfl rfl rfl (by decide +kernel) ⟨Nat.le_of_ble_eq_true rfl, Nat.le_of_ble_eq_true rfl⟩) (cx_preV (q0 := 0) (ci := 1) hK hP hD hS hA hE rfl rfl [0, 5] rfl rfl (by decide)) rfl rfl hl.1 rfl (lv_room (Nat.le_of_ble_eq_true rfl)) d_B_writePart_19 ⟨Nat.le_of_ble_eq_true rfl, Nat.le_of_ble_eq_true rfl⟩) hP hD hS hA [0, 5] [1, 2, 3, 4] rfl rfl (by decide) (by decide) [4, 0, 1, 2, 3, 5] rfl rfl (by decide) (fun H locs hP hD hS => ?_)
    have hP : va_P D vwCl [(h0, .inr (1, [.long seed, .ref hM, .ref hO, .int (nI cnt), .ref aS, .ref aA, .ref aB, .ref aN, .ref aM, .ref aL, .int vb, .int vs, .ref aT, .int (nI (n + ([bd_ltN s9]).length))])), (aS, .inl (K.1, 62, .inl fS)), (aA, .inl (K.1, 62, .inl fA)), (aB, .inl (K.1, 62, .inl fB)), (aN, .inl (K.1, 62, .inl fN)), (aT, .inl (K.2.2, 992, .inl (bd_app fT n ([bd_ltN s9]))))] H := hP
    have hD : va_D A [(h0, .inr (1, [.long seed, .ref hM, .ref hO, .int (nI cnt), .ref aS, .ref aA, .ref aB, .ref aN, .ref aM, .ref aL, .int vb, .int vs, .ref aT, .int (nI (n + ([bd_ltN s9]).length))])), (aS, .inl (K.1, 62, .inl fS)), (aA, .inl (K.1, 62, .inl fA)), (aB, .inl (K.1, 62, .inl fB)), (aN, .inl (K.1, 62, .inl fN)), (aT, .inl (K.2.2, 992, .inl (bd_app fT n ([bd_ltN s9]))))] := hD
    refine lv_aload_n hx hb d_B_writePart_22 rfl (lv_at hl 0 rfl) ?_
    refine lv_iload_n hx hb d_B_writePart_23 rfl (lv_at hl 1 rfl) ?_
    refine cx_cv (wr := [(aS, .inl (K.1, 62, .inl fS)), (aA, .inl (K.1, 62, .inl fA)), (aB, .inl (K.1, 62, .inl fB)), (aN, .inl (K.1, 62, .inl fN))]) (wN := [(h0, .inr (1, [.long seed, .ref hM, .ref hO, .int (nI cnt), .ref aS, .ref aA, .ref aB, .ref aN, .ref aM, .ref aL, .int vb, .int vs, .ref aT, .int (nI (n + ([bd_ltN s9]).length + (bd_dg k).length))])), (aS, .inl (K.1, 62, .inl fS)), (aA, .inl (K.1, 62, .inl fA)), (aB, .inl (K.1, 62, .inl fB)), (aN, .inl (K.1, 62, .inl fN)), (aT, .inl (K.2.2, 992, .inl (bd_app (bd_app fT n ([bd_ltN s9])) (n + ([bd_ltN s9]).length) (bd_dg k))))]) (va_runV (As := [.int (nI k)]) (rest := []) ⟨hx, hb, hml, hown, hw⟩ (c_B_writeNumber l G D K H.size h0 seed hM hO cnt aS aA aB aN aM aL vb vs aT (n + ([bd_ltN s9]).length) (bd_app fT n ([bd_ltN s9])) k (by simp only [List.length_append, List.length_cons, List.length_nil]; omega) (by first | omega | (have := bd_ltL s9 hs9; omega))) (cwV 1 hw (cx_gV k_237 k_239 ks_B_writeNumber k_1 k_240) rfl rfl rfl (by decide +kernel) ⟨Nat.le_of_ble_eq_true rfl, Nat.le_of_ble_eq_true rfl⟩) (cx_preV (q0 := 0) (ci := 1) hK hP hD hS hA hE rfl rfl [0, 5] rfl rfl (by decide)) rfl rfl hl.1 rfl (lv_room (Nat.le_of_ble_eq_true rfl)) d_B_writePart_24 ⟨Nat.le_of_ble_eq_true rfl, Nat.le_of_ble_eq_true rfl⟩) hP hD hS hA [0, 5] [1, 2, 3, 4] rfl rfl (by decide) (by decide) [4, 0, 1, 2, 3, 5] rfl rfl (by decide) (fun H locs hP hD hS => ?_)
    rw [bd_app_app, bd_tl] at hP hD
    have hP : va_P D vwCl [(h0, .inr (1, [.long seed, .ref hM, .ref hO, .int (nI cnt), .ref aS, .ref aA, .ref aB, .ref aN, .ref aM, .ref aL, .int vb, .int vs, .ref aT, .int (nI (n + ([bd_ltN s9] ++ (bd_dg k)).length))])), (aS, .inl (K.1, 62, .inl fS)), (aA, .inl (K.1, 62, .inl fA)), (aB, .inl (K.1, 62, .inl fB)), (aN, .inl (K.1, 62, .inl fN)), (aT, .inl (K.2.2, 992, .inl (bd_app fT n ([bd_ltN s9] ++ (bd_dg k)))))] H := hP
    have hD : va_D A [(h0, .inr (1, [.long seed, .ref hM, .ref hO, .int (nI cnt), .ref aS, .ref aA, .ref aB, .ref aN, .ref aM, .ref aL, .int vb, .int vs, .ref aT, .int (nI (n + ([bd_ltN s9] ++ (bd_dg k)).length))])), (aS, .inl (K.1, 62, .inl fS)), (aA, .inl (K.1, 62, .inl fA)), (aB, .inl (K.1, 62, .inl fB)), (aN, .inl (K.1, 62, .inl fN)), (aT, .inl (K.2.2, 992, .inl (bd_app fT n ([bd_ltN s9] ++ (bd_dg k)))))] := hD
    refine lv_aload_n hx hb d_B_writePart_27 rfl (lv_at hl 0 rfl) ?_
    refine lv_bipush (v := 40) hx hb d_B_writePart_28 (by decide) ?_
    refine cx_cv (wr := [(aS, .inl (K.1, 62, .inl fS)), (aA, .inl (K.1, 62, .inl fA)), (aB, .inl (K.1, 62, .inl fB)), (aN, .inl (K.1, 62, .inl fN))]) (wN := [(h0, .inr (1, [.long seed, .ref hM, .ref hO, .int (nI cnt), .ref aS, .ref aA, .ref aB, .ref aN, .ref aM, .ref aL, .int vb, .int vs, .ref aT, .int (nI (n + ([bd_ltN s9] ++ (bd_dg k)).length + ([40]).length))])), (aS, .inl (K.1, 62, .inl fS)), (aA, .inl (K.1, 62, .inl fA)), (aB, .inl (K.1, 62, .inl fB)), (aN, .inl (K.1, 62, .inl fN)), (aT, .inl (K.2.2, 992, .inl (bd_app (bd_app fT n ([bd_ltN s9] ++ (bd_dg k))) (n + ([bd_ltN s9] ++ (bd_dg k)).length) ([40]))))]) (va_runV (As := [.int 40]) (rest := []) ⟨hx, hb, hml, hown, hw⟩ (c_B_writeSign l G D K H.size h0 seed hM hO cnt aS aA aB aN aM aL vb vs aT (n + ([bd_ltN s9] ++ (bd_dg k)).length) (bd_app fT n ([bd_ltN s9] ++ (bd_dg k))) 40 (by simp only [List.length_append, List.length_cons, List.length_nil]; omega) (by first | omega | (have := bd_ltL s9 hs9; omega))) (cwV 1 hw (cx_gV k_233 k_235 ks_B_writeSign k_1 k_236) rfl rfl rfl (by decide +kernel) ⟨Nat.le_of_ble_eq_true rfl, Nat.le_of_ble_eq_true rfl⟩) (cx_preV (q0 := 0) (ci := 1) hK hP hD hS hA hE rfl rfl [0, 5] rfl rfl (by decide)) rfl rfl hl.1 rfl (lv_room (Nat.le_of_ble_eq_true rfl)) d_B_writePart_30 ⟨Nat.le_of_ble_eq_true rfl, Nat.le_of_ble_eq_true rfl⟩) hP hD hS hA [0, 5] [1, 2, 3, 4] rfl rfl (by decide) (by decide) [4, 0, 1, 2, 3, 5] rfl rfl (by decide) (fun H locs hP hD hS => ?_)
    rw [bd_app_app, bd_tl] at hP hD
    have hP : va_P D vwCl [(h0, .inr (1, [.long seed, .ref hM, .ref hO, .int (nI cnt), .ref aS, .ref aA, .ref aB, .ref aN, .ref aM, .ref aL, .int vb, .int vs, .ref aT, .int (nI (n + ([bd_ltN s9] ++ (bd_dg k) ++ [40]).length))])), (aS, .inl (K.1, 62, .inl fS)), (aA, .inl (K.1, 62, .inl fA)), (aB, .inl (K.1, 62, .inl fB)), (aN, .inl (K.1, 62, .inl fN)), (aT, .inl (K.2.2, 992, .inl (bd_app fT n ([bd_ltN s9] ++ (bd_dg k) ++ [40]))))] H := hP
    have hD : va_D A [(h0, .inr (1, [.long seed, .ref hM, .ref hO, .int (nI cnt), .ref aS, .ref aA, .ref aB, .ref aN, .ref aM, .ref aL, .int vb, .int vs, .ref aT, .int (nI (n + ([bd_ltN s9] ++ (bd_dg k) ++ [40]).length))])), (aS, .inl (K.1, 62, .inl fS)), (aA, .inl (K.1, 62, .inl fA)), (aB, .inl (K.1, 62, .inl fB)), (aN, .inl (K.1, 62, .inl fN)), (aT, .inl (K.2.2, 992, .inl (bd_app fT n ([bd_ltN s9] ++ (bd_dg k) ++ [40]))))] := hD
    refine lv_aload_n hx hb d_B_writePart_33 rfl (lv_at hl 0 rfl) ?_
    refine lv_aload_n hx hb d_B_writePart_34 rfl (lv_at hl 0 rfl) ?_
    refine va_get (D := D) (ci := 1) (v := .ref aA) (C := "BuildDrawer") (T := TB) (N := 14) hx hb hw inB hown hK hP 0 rfl rfl 5 (by decide) (hw _ k_61) (fun _ h9 => h9) rfl d_B_writePart_35 ?_
    refine lv_iload_n hx hb d_B_writePart_38 rfl (lv_at hl 1 rfl) ?_
    refine va_iald hx hb hK hP 2 0 rfl rfl (vp_in_nI (n := k) (by omega) (by omega)) d_B_writePart_39 ?_
    refine cx_ti (y := nI a9) (by rw [nI_clamp (by omega)]; exact ha9) ?_
    refine cx_cv (wr := [(aS, .inl (K.1, 62, .inl fS)), (aA, .inl (K.1, 62, .inl fA)), (aB, .inl (K.1, 62, .inl fB)), (aN, .inl (K.1, 62, .inl fN))]) (wN := [(h0, .inr (1, [.long seed, .ref hM, .ref hO, .int (nI cnt), .ref aS, .ref aA, .ref aB, .ref aN, .ref aM, .ref aL, .int vb, .int vs, .ref aT, .int (nI (n + ([bd_ltN s9] ++ (bd_dg k) ++ [40]).length + (bd_dg a9).length))])), (aS, .inl (K.1, 62, .inl fS)), (aA, .inl (K.1, 62, .inl fA)), (aB, .inl (K.1, 62, .inl fB)), (aN, .inl (K.1, 62, .inl fN)), (aT, .inl (K.2.2, 992, .inl (bd_app (bd_app fT n ([bd_ltN s9] ++ (bd_dg k) ++ [40])) (n + ([bd_ltN s9] ++ (bd_dg k) ++ [40]).length) (bd_dg a9))))]) (va_runV (As := [.int (nI a9)]) (rest := []) ⟨hx, hb, hml, hown, hw⟩ (c_B_writeNumber l G D K H.size h0 seed hM hO cnt aS aA aB aN aM aL vb vs aT (n + ([bd_ltN s9] ++ (bd_dg k) ++ [40]).length) (bd_app fT n ([bd_ltN s9] ++ (bd_dg k) ++ [40])) a9 (by simp only [List.length_append, List.length_cons, List.length_nil]; omega) (by first | omega | (have := bd_ltL s9 hs9; omega))) (cwV 1 hw (cx_gV k_237 k_239 ks_B_writeNumber k_1 k_240) rfl rfl rfl (by decide +kernel) ⟨Nat.le_of_ble_eq_true rfl, Nat.le_of_ble_eq_true rfl⟩) (cx_preV (q0 := 0) (ci := 1) hK hP hD hS hA hE rfl rfl [0, 5] rfl rfl (by decide)) rfl rfl hl.1 rfl (lv_room (Nat.le_of_ble_eq_true rfl)) d_B_writePart_40 ⟨Nat.le_of_ble_eq_true rfl, Nat.le_of_ble_eq_true rfl⟩) hP hD hS hA [0, 5] [1, 2, 3, 4] rfl rfl (by decide) (by decide) [4, 0, 1, 2, 3, 5] rfl rfl (by decide) (fun H locs hP hD hS => ?_)
    rw [bd_app_app, bd_tl] at hP hD
    have hP : va_P D vwCl [(h0, .inr (1, [.long seed, .ref hM, .ref hO, .int (nI cnt), .ref aS, .ref aA, .ref aB, .ref aN, .ref aM, .ref aL, .int vb, .int vs, .ref aT, .int (nI (n + ([bd_ltN s9] ++ (bd_dg k) ++ [40] ++ (bd_dg a9)).length))])), (aS, .inl (K.1, 62, .inl fS)), (aA, .inl (K.1, 62, .inl fA)), (aB, .inl (K.1, 62, .inl fB)), (aN, .inl (K.1, 62, .inl fN)), (aT, .inl (K.2.2, 992, .inl (bd_app fT n ([bd_ltN s9] ++ (bd_dg k) ++ [40] ++ (bd_dg a9)))))] H := hP
    have hD : va_D A [(h0, .inr (1, [.long seed, .ref hM, .ref hO, .int (nI cnt), .ref aS, .ref aA, .ref aB, .ref aN, .ref aM, .ref aL, .int vb, .int vs, .ref aT, .int (nI (n + ([bd_ltN s9] ++ (bd_dg k) ++ [40] ++ (bd_dg a9)).length))])), (aS, .inl (K.1, 62, .inl fS)), (aA, .inl (K.1, 62, .inl fA)), (aB, .inl (K.1, 62, .inl fB)), (aN, .inl (K.1, 62, .inl fN)), (aT, .inl (K.2.2, 992, .inl (bd_app fT n ([bd_ltN s9] ++ (bd_dg k) ++ [40] ++ (bd_dg a9)))))] := hD
    refine lv_aload_n hx hb d_B_writePart_43 rfl (lv_at hl 0 rfl) ?_
    refine lv_bipush (v := 44) hx hb d_B_writePart_44 (by decide) ?_
    refine cx_cv (wr := [(aS, .inl (K.1, 62, .inl fS)), (aA, .inl (K.1, 62, .inl fA)), (aB, .inl (K.1, 62, .inl fB)), (aN, .inl (K.1, 62, .inl fN))]) (wN := [(h0, .inr (1, [.long seed, .ref hM, .ref hO, .int (nI cnt), .ref aS, .ref aA, .ref aB, .ref aN, .ref aM, .ref aL, .int vb, .int vs, .ref aT, .int (nI (n + ([bd_ltN s9] ++ (bd_dg k) ++ [40] ++ (bd_dg a9)).length + ([44]).length))])), (aS, .inl (K.1, 62, .inl fS)), (aA, .inl (K.1, 62, .inl fA)), (aB, .inl (K.1, 62, .inl fB)), (aN, .inl (K.1, 62, .inl fN)), (aT, .inl (K.2.2, 992, .inl (bd_app (bd_app fT n ([bd_ltN s9] ++ (bd_dg k) ++ [40] ++ (bd_dg a9))) (n + ([bd_ltN s9] ++ (bd_dg k) ++ [40] ++ (bd_dg a9)).length) ([44]))))]) (va_runV (As := [.int 44]) (rest := []) ⟨hx, hb, hml, hown, hw⟩ (c_B_writeSign l G D K H.size h0 seed hM hO cnt aS aA aB aN aM aL vb vs aT (n + ([bd_ltN s9] ++ (bd_dg k) ++ [40] ++ (bd_dg a9)).length) (bd_app fT n ([bd_ltN s9] ++ (bd_dg k) ++ [40] ++ (bd_dg a9))) 44 (by simp only [List.length_append, List.length_cons, List.length_nil]; omega) (by first | omega | (have := bd_ltL s9 hs9; omega))) (cwV 1 hw (cx_gV k_233 k_235 ks_B_writeSign k_1 k_236) rfl rfl rfl (by decide +kernel) ⟨Nat.le_of_ble_eq_true rfl, Nat.le_of_ble_eq_true rfl⟩) (cx_preV (q0 := 0) (ci := 1) hK hP hD hS hA hE rfl rfl [0, 5] rfl rfl (by decide)) rfl rfl hl.1 rfl (lv_room (Nat.le_of_ble_eq_true rfl)) d_B_writePart_46 ⟨Nat.le_of_ble_eq_true rfl, Nat.le_of_ble_eq_true rfl⟩) hP hD hS hA [0, 5] [1, 2, 3, 4] rfl rfl (by decide) (by decide) [4, 0, 1, 2, 3, 5] rfl rfl (by decide) (fun H locs hP hD hS => ?_)
    rw [bd_app_app, bd_tl] at hP hD
    have hP : va_P D vwCl [(h0, .inr (1, [.long seed, .ref hM, .ref hO, .int (nI cnt), .ref aS, .ref aA, .ref aB, .ref aN, .ref aM, .ref aL, .int vb, .int vs, .ref aT, .int (nI (n + ([bd_ltN s9] ++ (bd_dg k) ++ [40] ++ (bd_dg a9) ++ [44]).length))])), (aS, .inl (K.1, 62, .inl fS)), (aA, .inl (K.1, 62, .inl fA)), (aB, .inl (K.1, 62, .inl fB)), (aN, .inl (K.1, 62, .inl fN)), (aT, .inl (K.2.2, 992, .inl (bd_app fT n ([bd_ltN s9] ++ (bd_dg k) ++ [40] ++ (bd_dg a9) ++ [44]))))] H := hP
    have hD : va_D A [(h0, .inr (1, [.long seed, .ref hM, .ref hO, .int (nI cnt), .ref aS, .ref aA, .ref aB, .ref aN, .ref aM, .ref aL, .int vb, .int vs, .ref aT, .int (nI (n + ([bd_ltN s9] ++ (bd_dg k) ++ [40] ++ (bd_dg a9) ++ [44]).length))])), (aS, .inl (K.1, 62, .inl fS)), (aA, .inl (K.1, 62, .inl fA)), (aB, .inl (K.1, 62, .inl fB)), (aN, .inl (K.1, 62, .inl fN)), (aT, .inl (K.2.2, 992, .inl (bd_app fT n ([bd_ltN s9] ++ (bd_dg k) ++ [40] ++ (bd_dg a9) ++ [44]))))] := hD
    refine lv_aload_n hx hb d_B_writePart_49 rfl (lv_at hl 0 rfl) ?_
    refine lv_aload_n hx hb d_B_writePart_50 rfl (lv_at hl 0 rfl) ?_
    refine va_get (D := D) (ci := 1) (v := .ref aB) (C := "BuildDrawer") (T := TB) (N := 14) hx hb hw inB hown hK hP 0 rfl rfl 6 (by decide) (hw _ k_62) (fun _ h9 => h9) rfl d_B_writePart_51 ?_
    refine lv_iload_n hx hb d_B_writePart_54 rfl (lv_at hl 1 rfl) ?_
    refine va_iald hx hb hK hP 3 0 rfl rfl (vp_in_nI (n := k) (by omega) (by omega)) d_B_writePart_55 ?_
    refine cx_ti (y := nI b9) (by rw [nI_clamp (by omega)]; exact hb9) ?_
    refine cx_cv (wr := [(aS, .inl (K.1, 62, .inl fS)), (aA, .inl (K.1, 62, .inl fA)), (aB, .inl (K.1, 62, .inl fB)), (aN, .inl (K.1, 62, .inl fN))]) (wN := [(h0, .inr (1, [.long seed, .ref hM, .ref hO, .int (nI cnt), .ref aS, .ref aA, .ref aB, .ref aN, .ref aM, .ref aL, .int vb, .int vs, .ref aT, .int (nI (n + ([bd_ltN s9] ++ (bd_dg k) ++ [40] ++ (bd_dg a9) ++ [44]).length + (bd_dg b9).length))])), (aS, .inl (K.1, 62, .inl fS)), (aA, .inl (K.1, 62, .inl fA)), (aB, .inl (K.1, 62, .inl fB)), (aN, .inl (K.1, 62, .inl fN)), (aT, .inl (K.2.2, 992, .inl (bd_app (bd_app fT n ([bd_ltN s9] ++ (bd_dg k) ++ [40] ++ (bd_dg a9) ++ [44])) (n + ([bd_ltN s9] ++ (bd_dg k) ++ [40] ++ (bd_dg a9) ++ [44]).length) (bd_dg b9))))]) (va_runV (As := [.int (nI b9)]) (rest := []) ⟨hx, hb, hml, hown, hw⟩ (c_B_writeNumber l G D K H.size h0 seed hM hO cnt aS aA aB aN aM aL vb vs aT (n + ([bd_ltN s9] ++ (bd_dg k) ++ [40] ++ (bd_dg a9) ++ [44]).length) (bd_app fT n ([bd_ltN s9] ++ (bd_dg k) ++ [40] ++ (bd_dg a9) ++ [44])) b9 (by simp only [List.length_append, List.length_cons, List.length_nil]; omega) (by first | omega | (have := bd_ltL s9 hs9; omega))) (cwV 1 hw (cx_gV k_237 k_239 ks_B_writeNumber k_1 k_240) rfl rfl rfl (by decide +kernel) ⟨Nat.le_of_ble_eq_true rfl, Nat.le_of_ble_eq_true rfl⟩) (cx_preV (q0 := 0) (ci := 1) hK hP hD hS hA hE rfl rfl [0, 5] rfl rfl (by decide)) rfl rfl hl.1 rfl (lv_room (Nat.le_of_ble_eq_true rfl)) d_B_writePart_56 ⟨Nat.le_of_ble_eq_true rfl, Nat.le_of_ble_eq_true rfl⟩) hP hD hS hA [0, 5] [1, 2, 3, 4] rfl rfl (by decide) (by decide) [4, 0, 1, 2, 3, 5] rfl rfl (by decide) (fun H locs hP hD hS => ?_)
    rw [bd_app_app, bd_tl] at hP hD
    have hP : va_P D vwCl [(h0, .inr (1, [.long seed, .ref hM, .ref hO, .int (nI cnt), .ref aS, .ref aA, .ref aB, .ref aN, .ref aM, .ref aL, .int vb, .int vs, .ref aT, .int (nI (n + ([bd_ltN s9] ++ (bd_dg k) ++ [40] ++ (bd_dg a9) ++ [44] ++ (bd_dg b9)).length))])), (aS, .inl (K.1, 62, .inl fS)), (aA, .inl (K.1, 62, .inl fA)), (aB, .inl (K.1, 62, .inl fB)), (aN, .inl (K.1, 62, .inl fN)), (aT, .inl (K.2.2, 992, .inl (bd_app fT n ([bd_ltN s9] ++ (bd_dg k) ++ [40] ++ (bd_dg a9) ++ [44] ++ (bd_dg b9)))))] H := hP
    have hD : va_D A [(h0, .inr (1, [.long seed, .ref hM, .ref hO, .int (nI cnt), .ref aS, .ref aA, .ref aB, .ref aN, .ref aM, .ref aL, .int vb, .int vs, .ref aT, .int (nI (n + ([bd_ltN s9] ++ (bd_dg k) ++ [40] ++ (bd_dg a9) ++ [44] ++ (bd_dg b9)).length))])), (aS, .inl (K.1, 62, .inl fS)), (aA, .inl (K.1, 62, .inl fA)), (aB, .inl (K.1, 62, .inl fB)), (aN, .inl (K.1, 62, .inl fN)), (aT, .inl (K.2.2, 992, .inl (bd_app fT n ([bd_ltN s9] ++ (bd_dg k) ++ [40] ++ (bd_dg a9) ++ [44] ++ (bd_dg b9)))))] := hD
    refine lv_aload_n hx hb d_B_writePart_59 rfl (lv_at hl 0 rfl) ?_
    refine lv_bipush (v := 41) hx hb d_B_writePart_60 (by decide) ?_
    refine cx_cv (wr := [(aS, .inl (K.1, 62, .inl fS)), (aA, .inl (K.1, 62, .inl fA)), (aB, .inl (K.1, 62, .inl fB)), (aN, .inl (K.1, 62, .inl fN))]) (wN := [(h0, .inr (1, [.long seed, .ref hM, .ref hO, .int (nI cnt), .ref aS, .ref aA, .ref aB, .ref aN, .ref aM, .ref aL, .int vb, .int vs, .ref aT, .int (nI (n + ([bd_ltN s9] ++ (bd_dg k) ++ [40] ++ (bd_dg a9) ++ [44] ++ (bd_dg b9)).length + ([41]).length))])), (aS, .inl (K.1, 62, .inl fS)), (aA, .inl (K.1, 62, .inl fA)), (aB, .inl (K.1, 62, .inl fB)), (aN, .inl (K.1, 62, .inl fN)), (aT, .inl (K.2.2, 992, .inl (bd_app (bd_app fT n ([bd_ltN s9] ++ (bd_dg k) ++ [40] ++ (bd_dg a9) ++ [44] ++ (bd_dg b9))) (n + ([bd_ltN s9] ++ (bd_dg k) ++ [40] ++ (bd_dg a9) ++ [44] ++ (bd_dg b9)).length) ([41]))))]) (va_runV (As := [.int 41]) (rest := []) ⟨hx, hb, hml, hown, hw⟩ (c_B_writeSign l G D K H.size h0 seed hM hO cnt aS aA aB aN aM aL vb vs aT (n + ([bd_ltN s9] ++ (bd_dg k) ++ [40] ++ (bd_dg a9) ++ [44] ++ (bd_dg b9)).length) (bd_app fT n ([bd_ltN s9] ++ (bd_dg k) ++ [40] ++ (bd_dg a9) ++ [44] ++ (bd_dg b9))) 41 (by simp only [List.length_append, List.length_cons, List.length_nil]; omega) (by first | omega | (have := bd_ltL s9 hs9; omega))) (cwV 1 hw (cx_gV k_233 k_235 ks_B_writeSign k_1 k_236) rfl rfl rfl (by decide +kernel) ⟨Nat.le_of_ble_eq_true rfl, Nat.le_of_ble_eq_true rfl⟩) (cx_preV (q0 := 0) (ci := 1) hK hP hD hS hA hE rfl rfl [0, 5] rfl rfl (by decide)) rfl rfl hl.1 rfl (lv_room (Nat.le_of_ble_eq_true rfl)) d_B_writePart_62 ⟨Nat.le_of_ble_eq_true rfl, Nat.le_of_ble_eq_true rfl⟩) hP hD hS hA [0, 5] [1, 2, 3, 4] rfl rfl (by decide) (by decide) [4, 0, 1, 2, 3, 5] rfl rfl (by decide) (fun H locs hP hD hS => ?_)
    rw [bd_app_app, bd_tl] at hP hD
    have hP : va_P D vwCl [(h0, .inr (1, [.long seed, .ref hM, .ref hO, .int (nI cnt), .ref aS, .ref aA, .ref aB, .ref aN, .ref aM, .ref aL, .int vb, .int vs, .ref aT, .int (nI (n + ([bd_ltN s9] ++ (bd_dg k) ++ [40] ++ (bd_dg a9) ++ [44] ++ (bd_dg b9) ++ [41]).length))])), (aS, .inl (K.1, 62, .inl fS)), (aA, .inl (K.1, 62, .inl fA)), (aB, .inl (K.1, 62, .inl fB)), (aN, .inl (K.1, 62, .inl fN)), (aT, .inl (K.2.2, 992, .inl (bd_app fT n ([bd_ltN s9] ++ (bd_dg k) ++ [40] ++ (bd_dg a9) ++ [44] ++ (bd_dg b9) ++ [41]))))] H := hP
    have hD : va_D A [(h0, .inr (1, [.long seed, .ref hM, .ref hO, .int (nI cnt), .ref aS, .ref aA, .ref aB, .ref aN, .ref aM, .ref aL, .int vb, .int vs, .ref aT, .int (nI (n + ([bd_ltN s9] ++ (bd_dg k) ++ [40] ++ (bd_dg a9) ++ [44] ++ (bd_dg b9) ++ [41]).length))])), (aS, .inl (K.1, 62, .inl fS)), (aA, .inl (K.1, 62, .inl fA)), (aB, .inl (K.1, 62, .inl fB)), (aN, .inl (K.1, 62, .inl fN)), (aT, .inl (K.2.2, 992, .inl (bd_app fT n ([bd_ltN s9] ++ (bd_dg k) ++ [40] ++ (bd_dg a9) ++ [44] ++ (bd_dg b9) ++ [41]))))] := hD
    refine lv_aload_n hx hb d_B_writePart_65 rfl (lv_at hl 0 rfl) ?_
    refine va_get (D := D) (ci := 1) (v := .ref aN) (C := "BuildDrawer") (T := TB) (N := 14) hx hb hw inB hown hK hP 0 rfl rfl 7 (by decide) (hw _ k_63) (fun _ h9 => h9) rfl d_B_writePart_66 ?_
    refine lv_iload_n hx hb d_B_writePart_69 rfl (lv_at hl 1 rfl) ?_
    refine va_iald hx hb hK hP 4 0 rfl rfl (vp_in_nI (n := k) (by omega) (by omega)) d_B_writePart_70 ?_
    refine cx_ti (y := fN k) (by rw [nI_clamp (by omega)]) ?_
    refine lv_iconst (v := (-1)) hx hb d_B_writePart_71 (by decide) ?_
    refine lv_icmp_eq (tgt := 91) hx hb d_B_writePart_72 (by decide) (fun r_72 => ?_) (fun r_72 => ?_)
    · have c_72 := r_72
      refine lv_aload_n hx hb d_B_writePart_91 rfl (lv_at hl 0 rfl) ?_
      refine lv_bipush (v := 59) hx hb d_B_writePart_92 (by decide) ?_
      refine cx_cv (wr := [(aS, .inl (K.1, 62, .inl fS)), (aA, .inl (K.1, 62, .inl fA)), (aB, .inl (K.1, 62, .inl fB)), (aN, .inl (K.1, 62, .inl fN))]) (wN := [(h0, .inr (1, [.long seed, .ref hM, .ref hO, .int (nI cnt), .ref aS, .ref aA, .ref aB, .ref aN, .ref aM, .ref aL, .int vb, .int vs, .ref aT, .int (nI (n + ([bd_ltN s9] ++ (bd_dg k) ++ [40] ++ (bd_dg a9) ++ [44] ++ (bd_dg b9) ++ [41]).length + ([59]).length))])), (aS, .inl (K.1, 62, .inl fS)), (aA, .inl (K.1, 62, .inl fA)), (aB, .inl (K.1, 62, .inl fB)), (aN, .inl (K.1, 62, .inl fN)), (aT, .inl (K.2.2, 992, .inl (bd_app (bd_app fT n ([bd_ltN s9] ++ (bd_dg k) ++ [40] ++ (bd_dg a9) ++ [44] ++ (bd_dg b9) ++ [41])) (n + ([bd_ltN s9] ++ (bd_dg k) ++ [40] ++ (bd_dg a9) ++ [44] ++ (bd_dg b9) ++ [41]).length) ([59]))))]) (va_runV (As := [.int 59]) (rest := []) ⟨hx, hb, hml, hown, hw⟩ (c_B_writeSign l G D K H.size h0 seed hM hO cnt aS aA aB aN aM aL vb vs aT (n + ([bd_ltN s9] ++ (bd_dg k) ++ [40] ++ (bd_dg a9) ++ [44] ++ (bd_dg b9) ++ [41]).length) (bd_app fT n ([bd_ltN s9] ++ (bd_dg k) ++ [40] ++ (bd_dg a9) ++ [44] ++ (bd_dg b9) ++ [41])) 59 (by simp only [List.length_append, List.length_cons, List.length_nil]; omega) (by first | omega | (have := bd_ltL s9 hs9; omega))) (cwV 1 hw (cx_gV k_233 k_235 ks_B_writeSign k_1 k_236) rfl rfl rfl (by decide +kernel) ⟨Nat.le_of_ble_eq_true rfl, Nat.le_of_ble_eq_true rfl⟩) (cx_preV (q0 := 0) (ci := 1) hK hP hD hS hA hE rfl rfl [0, 5] rfl rfl (by decide)) rfl rfl hl.1 rfl (lv_room (Nat.le_of_ble_eq_true rfl)) d_B_writePart_94 ⟨Nat.le_of_ble_eq_true rfl, Nat.le_of_ble_eq_true rfl⟩) hP hD hS hA [0, 5] [1, 2, 3, 4] rfl rfl (by decide) (by decide) [4, 0, 1, 2, 3, 5] rfl rfl (by decide) (fun H locs hP hD hS => ?_)
      rw [bd_app_app, bd_tl] at hP hD
      have hP : va_P D vwCl [(h0, .inr (1, [.long seed, .ref hM, .ref hO, .int (nI cnt), .ref aS, .ref aA, .ref aB, .ref aN, .ref aM, .ref aL, .int vb, .int vs, .ref aT, .int (nI (n + ([bd_ltN s9] ++ (bd_dg k) ++ [40] ++ (bd_dg a9) ++ [44] ++ (bd_dg b9) ++ [41] ++ [59]).length))])), (aS, .inl (K.1, 62, .inl fS)), (aA, .inl (K.1, 62, .inl fA)), (aB, .inl (K.1, 62, .inl fB)), (aN, .inl (K.1, 62, .inl fN)), (aT, .inl (K.2.2, 992, .inl (bd_app fT n ([bd_ltN s9] ++ (bd_dg k) ++ [40] ++ (bd_dg a9) ++ [44] ++ (bd_dg b9) ++ [41] ++ [59]))))] H := hP
      have hD : va_D A [(h0, .inr (1, [.long seed, .ref hM, .ref hO, .int (nI cnt), .ref aS, .ref aA, .ref aB, .ref aN, .ref aM, .ref aL, .int vb, .int vs, .ref aT, .int (nI (n + ([bd_ltN s9] ++ (bd_dg k) ++ [40] ++ (bd_dg a9) ++ [44] ++ (bd_dg b9) ++ [41] ++ [59]).length))])), (aS, .inl (K.1, 62, .inl fS)), (aA, .inl (K.1, 62, .inl fA)), (aB, .inl (K.1, 62, .inl fB)), (aN, .inl (K.1, 62, .inl fN)), (aT, .inl (K.2.2, 992, .inl (bd_app fT n ([bd_ltN s9] ++ (bd_dg k) ++ [40] ++ (bd_dg a9) ++ [44] ++ (bd_dg b9) ++ [41] ++ [59]))))] := hD
      exact cx_vret hx hb hr hlocks hK hP hD hS d_B_writePart_97 (by rw [show bd_pt k (fS k) (fA k) (fB k) (fN k) = [bd_ltN s9] ++ (bd_dg k) ++ [40] ++ (bd_dg a9) ++ [44] ++ (bd_dg b9) ++ [41] ++ [59] by rw [bd_pt, bd_ptN, if_pos r_72, hs, ha9, hb9, nI_clamp hlt_s, nI_clamp hlt_a, nI_clamp hlt_b]; simp only [List.append_assoc, List.append_nil, List.nil_append]])
    · have c_72 := r_72
      obtain ⟨n9, hln, hn9⟩ := hn8.resolve_left r_72
      have hlt_n : n9 < 2 ^ 31 := by omega
      have hg4 := bd_dg2 hln
      refine lv_aload_n hx hb d_B_writePart_75 rfl (lv_at hl 0 rfl) ?_
      refine lv_bipush (v := 60) hx hb d_B_writePart_76 (by decide) ?_
      refine cx_cv (wr := [(aS, .inl (K.1, 62, .inl fS)), (aA, .inl (K.1, 62, .inl fA)), (aB, .inl (K.1, 62, .inl fB)), (aN, .inl (K.1, 62, .inl fN))]) (wN := [(h0, .inr (1, [.long seed, .ref hM, .ref hO, .int (nI cnt), .ref aS, .ref aA, .ref aB, .ref aN, .ref aM, .ref aL, .int vb, .int vs, .ref aT, .int (nI (n + ([bd_ltN s9] ++ (bd_dg k) ++ [40] ++ (bd_dg a9) ++ [44] ++ (bd_dg b9) ++ [41]).length + ([60]).length))])), (aS, .inl (K.1, 62, .inl fS)), (aA, .inl (K.1, 62, .inl fA)), (aB, .inl (K.1, 62, .inl fB)), (aN, .inl (K.1, 62, .inl fN)), (aT, .inl (K.2.2, 992, .inl (bd_app (bd_app fT n ([bd_ltN s9] ++ (bd_dg k) ++ [40] ++ (bd_dg a9) ++ [44] ++ (bd_dg b9) ++ [41])) (n + ([bd_ltN s9] ++ (bd_dg k) ++ [40] ++ (bd_dg a9) ++ [44] ++ (bd_dg b9) ++ [41]).length) ([60]))))]) (va_runV (As := [.int 60]) (rest := []) ⟨hx, hb, hml, hown, hw⟩ (c_B_writeSign l G D K H.size h0 seed hM hO cnt aS aA aB aN aM aL vb vs aT (n + ([bd_ltN s9] ++ (bd_dg k) ++ [40] ++ (bd_dg a9) ++ [44] ++ (bd_dg b9) ++ [41]).length) (bd_app fT n ([bd_ltN s9] ++ (bd_dg k) ++ [40] ++ (bd_dg a9) ++ [44] ++ (bd_dg b9) ++ [41])) 60 (by simp only [List.length_append, List.length_cons, List.length_nil]; omega) (by first | omega | (have := bd_ltL s9 hs9; omega))) (cwV 1 hw (cx_gV k_233 k_235 ks_B_writeSign k_1 k_236) rfl rfl rfl (by decide +kernel) ⟨Nat.le_of_ble_eq_true rfl, Nat.le_of_ble_eq_true rfl⟩) (cx_preV (q0 := 0) (ci := 1) hK hP hD hS hA hE rfl rfl [0, 5] rfl rfl (by decide)) rfl rfl hl.1 rfl (lv_room (Nat.le_of_ble_eq_true rfl)) d_B_writePart_78 ⟨Nat.le_of_ble_eq_true rfl, Nat.le_of_ble_eq_true rfl⟩) hP hD hS hA [0, 5] [1, 2, 3, 4] rfl rfl (by decide) (by decide) [4, 0, 1, 2, 3, 5] rfl rfl (by decide) (fun H locs hP hD hS => ?_)
      rw [bd_app_app, bd_tl] at hP hD
      have hP : va_P D vwCl [(h0, .inr (1, [.long seed, .ref hM, .ref hO, .int (nI cnt), .ref aS, .ref aA, .ref aB, .ref aN, .ref aM, .ref aL, .int vb, .int vs, .ref aT, .int (nI (n + ([bd_ltN s9] ++ (bd_dg k) ++ [40] ++ (bd_dg a9) ++ [44] ++ (bd_dg b9) ++ [41] ++ [60]).length))])), (aS, .inl (K.1, 62, .inl fS)), (aA, .inl (K.1, 62, .inl fA)), (aB, .inl (K.1, 62, .inl fB)), (aN, .inl (K.1, 62, .inl fN)), (aT, .inl (K.2.2, 992, .inl (bd_app fT n ([bd_ltN s9] ++ (bd_dg k) ++ [40] ++ (bd_dg a9) ++ [44] ++ (bd_dg b9) ++ [41] ++ [60]))))] H := hP
      have hD : va_D A [(h0, .inr (1, [.long seed, .ref hM, .ref hO, .int (nI cnt), .ref aS, .ref aA, .ref aB, .ref aN, .ref aM, .ref aL, .int vb, .int vs, .ref aT, .int (nI (n + ([bd_ltN s9] ++ (bd_dg k) ++ [40] ++ (bd_dg a9) ++ [44] ++ (bd_dg b9) ++ [41] ++ [60]).length))])), (aS, .inl (K.1, 62, .inl fS)), (aA, .inl (K.1, 62, .inl fA)), (aB, .inl (K.1, 62, .inl fB)), (aN, .inl (K.1, 62, .inl fN)), (aT, .inl (K.2.2, 992, .inl (bd_app fT n ([bd_ltN s9] ++ (bd_dg k) ++ [40] ++ (bd_dg a9) ++ [44] ++ (bd_dg b9) ++ [41] ++ [60]))))] := hD
      refine lv_aload_n hx hb d_B_writePart_81 rfl (lv_at hl 0 rfl) ?_
      refine lv_aload_n hx hb d_B_writePart_82 rfl (lv_at hl 0 rfl) ?_
      refine va_get (D := D) (ci := 1) (v := .ref aN) (C := "BuildDrawer") (T := TB) (N := 14) hx hb hw inB hown hK hP 0 rfl rfl 7 (by decide) (hw _ k_63) (fun _ h9 => h9) rfl d_B_writePart_83 ?_
      refine lv_iload_n hx hb d_B_writePart_86 rfl (lv_at hl 1 rfl) ?_
      refine va_iald hx hb hK hP 4 0 rfl rfl (vp_in_nI (n := k) (by omega) (by omega)) d_B_writePart_87 ?_
      refine cx_ti (y := nI n9) (by rw [nI_clamp (by omega)]; exact hn9) ?_
      refine cx_cv (wr := [(aS, .inl (K.1, 62, .inl fS)), (aA, .inl (K.1, 62, .inl fA)), (aB, .inl (K.1, 62, .inl fB)), (aN, .inl (K.1, 62, .inl fN))]) (wN := [(h0, .inr (1, [.long seed, .ref hM, .ref hO, .int (nI cnt), .ref aS, .ref aA, .ref aB, .ref aN, .ref aM, .ref aL, .int vb, .int vs, .ref aT, .int (nI (n + ([bd_ltN s9] ++ (bd_dg k) ++ [40] ++ (bd_dg a9) ++ [44] ++ (bd_dg b9) ++ [41] ++ [60]).length + (bd_dg n9).length))])), (aS, .inl (K.1, 62, .inl fS)), (aA, .inl (K.1, 62, .inl fA)), (aB, .inl (K.1, 62, .inl fB)), (aN, .inl (K.1, 62, .inl fN)), (aT, .inl (K.2.2, 992, .inl (bd_app (bd_app fT n ([bd_ltN s9] ++ (bd_dg k) ++ [40] ++ (bd_dg a9) ++ [44] ++ (bd_dg b9) ++ [41] ++ [60])) (n + ([bd_ltN s9] ++ (bd_dg k) ++ [40] ++ (bd_dg a9) ++ [44] ++ (bd_dg b9) ++ [41] ++ [60]).length) (bd_dg n9))))]) (va_runV (As := [.int (nI n9)]) (rest := []) ⟨hx, hb, hml, hown, hw⟩ (c_B_writeNumber l G D K H.size h0 seed hM hO cnt aS aA aB aN aM aL vb vs aT (n + ([bd_ltN s9] ++ (bd_dg k) ++ [40] ++ (bd_dg a9) ++ [44] ++ (bd_dg b9) ++ [41] ++ [60]).length) (bd_app fT n ([bd_ltN s9] ++ (bd_dg k) ++ [40] ++ (bd_dg a9) ++ [44] ++ (bd_dg b9) ++ [41] ++ [60])) n9 (by simp only [List.length_append, List.length_cons, List.length_nil]; omega) (by first | omega | (have := bd_ltL s9 hs9; omega))) (cwV 1 hw (cx_gV k_237 k_239 ks_B_writeNumber k_1 k_240) rfl rfl rfl (by decide +kernel) ⟨Nat.le_of_ble_eq_true rfl, Nat.le_of_ble_eq_true rfl⟩) (cx_preV (q0 := 0) (ci := 1) hK hP hD hS hA hE rfl rfl [0, 5] rfl rfl (by decide)) rfl rfl hl.1 rfl (lv_room (Nat.le_of_ble_eq_true rfl)) d_B_writePart_88 ⟨Nat.le_of_ble_eq_true rfl, Nat.le_of_ble_eq_true rfl⟩) hP hD hS hA [0, 5] [1, 2, 3, 4] rfl rfl (by decide) (by decide) [4, 0, 1, 2, 3, 5] rfl rfl (by decide) (fun H locs hP hD hS => ?_)
      rw [bd_app_app, bd_tl] at hP hD
      have hP : va_P D vwCl [(h0, .inr (1, [.long seed, .ref hM, .ref hO, .int (nI cnt), .ref aS, .ref aA, .ref aB, .ref aN, .ref aM, .ref aL, .int vb, .int vs, .ref aT, .int (nI (n + ([bd_ltN s9] ++ (bd_dg k) ++ [40] ++ (bd_dg a9) ++ [44] ++ (bd_dg b9) ++ [41] ++ [60] ++ (bd_dg n9)).length))])), (aS, .inl (K.1, 62, .inl fS)), (aA, .inl (K.1, 62, .inl fA)), (aB, .inl (K.1, 62, .inl fB)), (aN, .inl (K.1, 62, .inl fN)), (aT, .inl (K.2.2, 992, .inl (bd_app fT n ([bd_ltN s9] ++ (bd_dg k) ++ [40] ++ (bd_dg a9) ++ [44] ++ (bd_dg b9) ++ [41] ++ [60] ++ (bd_dg n9)))))] H := hP
      have hD : va_D A [(h0, .inr (1, [.long seed, .ref hM, .ref hO, .int (nI cnt), .ref aS, .ref aA, .ref aB, .ref aN, .ref aM, .ref aL, .int vb, .int vs, .ref aT, .int (nI (n + ([bd_ltN s9] ++ (bd_dg k) ++ [40] ++ (bd_dg a9) ++ [44] ++ (bd_dg b9) ++ [41] ++ [60] ++ (bd_dg n9)).length))])), (aS, .inl (K.1, 62, .inl fS)), (aA, .inl (K.1, 62, .inl fA)), (aB, .inl (K.1, 62, .inl fB)), (aN, .inl (K.1, 62, .inl fN)), (aT, .inl (K.2.2, 992, .inl (bd_app fT n ([bd_ltN s9] ++ (bd_dg k) ++ [40] ++ (bd_dg a9) ++ [44] ++ (bd_dg b9) ++ [41] ++ [60] ++ (bd_dg n9)))))] := hD
      refine lv_aload_n hx hb d_B_writePart_91 rfl (lv_at hl 0 rfl) ?_
      refine lv_bipush (v := 59) hx hb d_B_writePart_92 (by decide) ?_
      refine cx_cv (wr := [(aS, .inl (K.1, 62, .inl fS)), (aA, .inl (K.1, 62, .inl fA)), (aB, .inl (K.1, 62, .inl fB)), (aN, .inl (K.1, 62, .inl fN))]) (wN := [(h0, .inr (1, [.long seed, .ref hM, .ref hO, .int (nI cnt), .ref aS, .ref aA, .ref aB, .ref aN, .ref aM, .ref aL, .int vb, .int vs, .ref aT, .int (nI (n + ([bd_ltN s9] ++ (bd_dg k) ++ [40] ++ (bd_dg a9) ++ [44] ++ (bd_dg b9) ++ [41] ++ [60] ++ (bd_dg n9)).length + ([59]).length))])), (aS, .inl (K.1, 62, .inl fS)), (aA, .inl (K.1, 62, .inl fA)), (aB, .inl (K.1, 62, .inl fB)), (aN, .inl (K.1, 62, .inl fN)), (aT, .inl (K.2.2, 992, .inl (bd_app (bd_app fT n ([bd_ltN s9] ++ (bd_dg k) ++ [40] ++ (bd_dg a9) ++ [44] ++ (bd_dg b9) ++ [41] ++ [60] ++ (bd_dg n9))) (n + ([bd_ltN s9] ++ (bd_dg k) ++ [40] ++ (bd_dg a9) ++ [44] ++ (bd_dg b9) ++ [41] ++ [60] ++ (bd_dg n9)).length) ([59]))))]) (va_runV (As := [.int 59]) (rest := []) ⟨hx, hb, hml, hown, hw⟩ (c_B_writeSign l G D K H.size h0 seed hM hO cnt aS aA aB aN aM aL vb vs aT (n + ([bd_ltN s9] ++ (bd_dg k) ++ [40] ++ (bd_dg a9) ++ [44] ++ (bd_dg b9) ++ [41] ++ [60] ++ (bd_dg n9)).length) (bd_app fT n ([bd_ltN s9] ++ (bd_dg k) ++ [40] ++ (bd_dg a9) ++ [44] ++ (bd_dg b9) ++ [41] ++ [60] ++ (bd_dg n9))) 59 (by simp only [List.length_append, List.length_cons, List.length_nil]; omega) (by first | omega | (have := bd_ltL s9 hs9; omega))) (cwV 1 hw (cx_gV k_233 k_235 ks_B_writeSign k_1 k_236) rfl rfl rfl (by decide +kernel) ⟨Nat.le_of_ble_eq_true rfl, Nat.le_of_ble_eq_true rfl⟩) (cx_preV (q0 := 0) (ci := 1) hK hP hD hS hA hE rfl rfl [0, 5] rfl rfl (by decide)) rfl rfl hl.1 rfl (lv_room (Nat.le_of_ble_eq_true rfl)) d_B_writePart_94 ⟨Nat.le_of_ble_eq_true rfl, Nat.le_of_ble_eq_true rfl⟩) hP hD hS hA [0, 5] [1, 2, 3, 4] rfl rfl (by decide) (by decide) [4, 0, 1, 2, 3, 5] rfl rfl (by decide) (fun H locs hP hD hS => ?_)
      rw [bd_app_app, bd_tl] at hP hD
      have hP : va_P D vwCl [(h0, .inr (1, [.long seed, .ref hM, .ref hO, .int (nI cnt), .ref aS, .ref aA, .ref aB, .ref aN, .ref aM, .ref aL, .int vb, .int vs, .ref aT, .int (nI (n + ([bd_ltN s9] ++ (bd_dg k) ++ [40] ++ (bd_dg a9) ++ [44] ++ (bd_dg b9) ++ [41] ++ [60] ++ (bd_dg n9) ++ [59]).length))])), (aS, .inl (K.1, 62, .inl fS)), (aA, .inl (K.1, 62, .inl fA)), (aB, .inl (K.1, 62, .inl fB)), (aN, .inl (K.1, 62, .inl fN)), (aT, .inl (K.2.2, 992, .inl (bd_app fT n ([bd_ltN s9] ++ (bd_dg k) ++ [40] ++ (bd_dg a9) ++ [44] ++ (bd_dg b9) ++ [41] ++ [60] ++ (bd_dg n9) ++ [59]))))] H := hP
      have hD : va_D A [(h0, .inr (1, [.long seed, .ref hM, .ref hO, .int (nI cnt), .ref aS, .ref aA, .ref aB, .ref aN, .ref aM, .ref aL, .int vb, .int vs, .ref aT, .int (nI (n + ([bd_ltN s9] ++ (bd_dg k) ++ [40] ++ (bd_dg a9) ++ [44] ++ (bd_dg b9) ++ [41] ++ [60] ++ (bd_dg n9) ++ [59]).length))])), (aS, .inl (K.1, 62, .inl fS)), (aA, .inl (K.1, 62, .inl fA)), (aB, .inl (K.1, 62, .inl fB)), (aN, .inl (K.1, 62, .inl fN)), (aT, .inl (K.2.2, 992, .inl (bd_app fT n ([bd_ltN s9] ++ (bd_dg k) ++ [40] ++ (bd_dg a9) ++ [44] ++ (bd_dg b9) ++ [41] ++ [60] ++ (bd_dg n9) ++ [59]))))] := hD
      exact cx_vret hx hb hr hlocks hK hP hD hS d_B_writePart_97 (by rw [show bd_pt k (fS k) (fA k) (fB k) (fN k) = [bd_ltN s9] ++ (bd_dg k) ++ [40] ++ (bd_dg a9) ++ [44] ++ (bd_dg b9) ++ [41] ++ [60] ++ (bd_dg n9) ++ [59] by rw [bd_pt, bd_ptN, if_neg r_72, hs, ha9, hb9, hn9, nI_clamp hlt_s, nI_clamp hlt_a, nI_clamp hlt_b, nI_clamp hlt_n]; simp only [List.append_assoc]])
  · have c_5 := r_5
    exact absurd r_5 (by decide)
set_option maxHeartbeats 4000000 in
set_option maxRecDepth 100000 in
theorem c_B_writeText (l : Launch) (G : cx_G) (D : va_G) (K : cx_KT) (sz : Nat) (h0 : Nat) (seed : Int64) (hM : Nat) (hO : Nat) (cnt : Nat) (aS : Nat) (aA : Nat) (aB : Nat) (aN : Nat) (aM : Nat) (aL : Nat) (vb : Int32) (vs : Int32) (aT : Nat) (tl : Int32) (fS : Nat → Int32) (fA : Nat → Int32) (fB : Nat → Int32) (fN : Nat → Int32) (fL : Nat → Int32) (fT : Nat → Int32) (hcnt : cnt ≤ 62) (hok : ∀ j, j < cnt → bd_ok (fS j) (fA j) (fB j) (fN j)) : Met l y_B_writeText w_B_writeText ({ frames := 6, cells := 0, slots := 0, locals := 126 }) (cx_Pc G D (cx_ty K) [(h0, .inr (1, [.long seed, .ref hM, .ref hO, .int (nI cnt), .ref aS, .ref aA, .ref aB, .ref aN, .ref aM, .ref aL, .int vb, .int vs, .ref aT, .int tl])), (aS, .inl (K.1, 62, .inl fS)), (aA, .inl (K.1, 62, .inl fA)), (aB, .inl (K.1, 62, .inl fB)), (aN, .inl (K.1, 62, .inl fN)), (aL, .inl (K.2.1, 62, .inl fL)), (aT, .inl (K.2.2, 992, .inl fT))] sz [.ref h0]) (cx_Qv D (cx_ty K) [(h0, .inr (1, [.long seed, .ref hM, .ref hO, .int (nI cnt), .ref aS, .ref aA, .ref aB, .ref aN, .ref aM, .ref aL, .int vb, .int vs, .ref aT, .int (nI (0 + (bd_tx fS fA fB fN fL cnt).length))])), (aS, .inl (K.1, 62, .inl fS)), (aA, .inl (K.1, 62, .inl fA)), (aB, .inl (K.1, 62, .inl fB)), (aN, .inl (K.1, 62, .inl fN)), (aL, .inl (K.2.1, 62, .inl fL)), (aT, .inl (K.2.2, 992, .inl (bd_app fT 0 (bd_tx fS fA fB fN fL cnt))))] (va_A [(h0, .inr (1, [.long seed, .ref hM, .ref hO, .int (nI cnt), .ref aS, .ref aA, .ref aB, .ref aN, .ref aM, .ref aL, .int vb, .int vs, .ref aT, .int tl])), (aS, .inl (K.1, 62, .inl fS)), (aA, .inl (K.1, 62, .inl fA)), (aB, .inl (K.1, 62, .inl fB)), (aN, .inl (K.1, 62, .inl fN)), (aL, .inl (K.2.1, 62, .inl fL)), (aT, .inl (K.2.2, 992, .inl fT))] sz)) 0 0 (va_A [(h0, .inr (1, [.long seed, .ref hM, .ref hO, .int (nI cnt), .ref aS, .ref aA, .ref aB, .ref aN, .ref aM, .ref aL, .int vb, .int vs, .ref aT, .int tl])), (aS, .inl (K.1, 62, .inl fS)), (aA, .inl (K.1, 62, .inl fA)), (aB, .inl (K.1, 62, .inl fB)), (aN, .inl (K.1, 62, .inl fN)), (aL, .inl (K.2.1, 62, .inl fL)), (aT, .inl (K.2.2, 992, .inl fT))] sz) := by
  refine Met.ofW (cc := prog_1_method_20_code) (maxL := 2) (ret := none) (by decide) rfl ?_
  intro p e s m args below meth c s₁ B hml hv
  obtain ⟨rfl, hsz, hP, hK, hD0, hE⟩ := hv
  have hx := B.exec
  have hb := B.bytes
  have hr := B.returns
  have hts := atoms_spec (ws := w_B_writeText) B.pre
  have hw : ∀ w ∈ cw, w.before _ s = true := fun w h => hts w (List.mem_cons_of_mem _ h)
  have hown : s.vm.findClass "BuildDrawer" = some m.cls := findClass_of_methodNamed B.named
  have hlocks := B.notSynchronized
  subst hsz
  have hD := hD0.self (sz := s.heap.size)
  generalize hAe : va_A [(h0, .inr (1, [.long seed, .ref hM, .ref hO, .int (nI cnt), .ref aS, .ref aA, .ref aB, .ref aN, .ref aM, .ref aL, .int vb, .int vs, .ref aT, .int tl])), (aS, .inl (K.1, 62, .inl fS)), (aA, .inl (K.1, 62, .inl fA)), (aB, .inl (K.1, 62, .inl fB)), (aN, .inl (K.1, 62, .inl fN)), (aL, .inl (K.2.1, 62, .inl fL)), (aT, .inl (K.2.2, 992, .inl fT))] s.heap.size = A at hD hE ⊢
  have hA : ∀ q : Nat, s.heap.size ≤ q → A q := fun q h => by rw [← hAe]; exact Or.inr h
  have hS : va_S A s.heap s.heap [] := va_S.rf
  have hl := lv_entry ([.ref h0]) (n := 2) (Nat.le_of_ble_eq_true rfl)
  rw [lg_entry_eq]
  generalize (lg_sl ([.ref h0]) ++ List.replicate (2 - (lg_sl ([.ref h0])).length) Slot.unset).toArray = ls at hl ⊢
  have hl : lv_has ls 2 [(0, .ref h0)] := hl
  refine lv_aload_n hx hb d_B_writeText_0 rfl (lv_at hl 0 rfl) ?_
  refine lv_iconst (v := 0) hx hb d_B_writeText_1 (by decide) ?_
  refine va_put (D := D) (ci := 1) (v := .int 0) (ty := .int) (C := "BuildDrawer") (T := TB) (N := 14) hx hb hw inB tyB tyB_ok nmB hown hK hP hD hS 0 rfl rfl 13 (by decide) (hw _ k_69) (fun _ h9 => h9) rfl (by decide +kernel) rfl rfl (Nat.le_of_ble_eq_true rfl) d_B_writeText_2 (fun H locs hP hD hS => ?_)
  have hP : va_P D vwCl [(h0, .inr (1, [.long seed, .ref hM, .ref hO, .int (nI cnt), .ref aS, .ref aA, .ref aB, .ref aN, .ref aM, .ref aL, .int vb, .int vs, .ref aT, .int 0])), (aS, .inl (K.1, 62, .inl fS)), (aA, .inl (K.1, 62, .inl fA)), (aB, .inl (K.1, 62, .inl fB)), (aN, .inl (K.1, 62, .inl fN)), (aL, .inl (K.2.1, 62, .inl fL)), (aT, .inl (K.2.2, 992, .inl fT))] H := hP
  have hD : va_D A [(h0, .inr (1, [.long seed, .ref hM, .ref hO, .int (nI cnt), .ref aS, .ref aA, .ref aB, .ref aN, .ref aM, .ref aL, .int vb, .int vs, .ref aT, .int 0])), (aS, .inl (K.1, 62, .inl fS)), (aA, .inl (K.1, 62, .inl fA)), (aB, .inl (K.1, 62, .inl fB)), (aN, .inl (K.1, 62, .inl fN)), (aL, .inl (K.2.1, 62, .inl fL)), (aT, .inl (K.2.2, 992, .inl fT))] := hD
  refine lv_iconst (v := 0) hx hb d_B_writeText_5 (by decide) ?_
  refine lv_istore_n (lv' := [(1, .int 0), (0, .ref h0)]) hx hb d_B_writeText_6 rfl hl (by decide) rfl (fun ls hl => ?_)
  have hP : va_P D vwCl [(h0, .inr (1, [.long seed, .ref hM, .ref hO, .int (nI cnt), .ref aS, .ref aA, .ref aB, .ref aN, .ref aM, .ref aL, .int vb, .int vs, .ref aT, .int (nI (0 + (bd_tx fS fA fB fN fL 0).length))])), (aS, .inl (K.1, 62, .inl fS)), (aA, .inl (K.1, 62, .inl fA)), (aB, .inl (K.1, 62, .inl fB)), (aN, .inl (K.1, 62, .inl fN)), (aL, .inl (K.2.1, 62, .inl fL)), (aT, .inl (K.2.2, 992, .inl (bd_app fT 0 (bd_tx fS fA fB fN fL 0))))] H := by rw [show bd_app fT 0 (bd_tx fS fA fB fN fL 0) = fT from bd_app0 _ _]; exact hP
  have hD : va_D A [(h0, .inr (1, [.long seed, .ref hM, .ref hO, .int (nI cnt), .ref aS, .ref aA, .ref aB, .ref aN, .ref aM, .ref aL, .int vb, .int vs, .ref aT, .int (nI (0 + (bd_tx fS fA fB fN fL 0).length))])), (aS, .inl (K.1, 62, .inl fS)), (aA, .inl (K.1, 62, .inl fA)), (aB, .inl (K.1, 62, .inl fB)), (aN, .inl (K.1, 62, .inl fN)), (aL, .inl (K.2.1, 62, .inl fL)), (aT, .inl (K.2.2, 992, .inl (bd_app fT 0 (bd_tx fS fA fB fN fL 0))))] := by rw [show bd_app fT 0 (bd_tx fS fA fB fN fL 0) = fT from bd_app0 _ _]; exact hD
  refine cx_loop (pc := 7) (st := []) (fun (i : Nat) H locs ls => (i ≤ cnt) ∧ va_P D vwCl [(h0, .inr (1, [.long seed, .ref hM, .ref hO, .int (nI cnt), .ref aS, .ref aA, .ref aB, .ref aN, .ref aM, .ref aL, .int vb, .int vs, .ref aT, .int (nI (0 + (bd_tx fS fA fB fN fL i).length))])), (aS, .inl (K.1, 62, .inl fS)), (aA, .inl (K.1, 62, .inl fA)), (aB, .inl (K.1, 62, .inl fB)), (aN, .inl (K.1, 62, .inl fN)), (aL, .inl (K.2.1, 62, .inl fL)), (aT, .inl (K.2.2, 992, .inl (bd_app fT 0 (bd_tx fS fA fB fN fL i))))] H ∧ va_D A [(h0, .inr (1, [.long seed, .ref hM, .ref hO, .int (nI cnt), .ref aS, .ref aA, .ref aB, .ref aN, .ref aM, .ref aL, .int vb, .int vs, .ref aT, .int (nI (0 + (bd_tx fS fA fB fN fL i).length))])), (aS, .inl (K.1, 62, .inl fS)), (aA, .inl (K.1, 62, .inl fA)), (aB, .inl (K.1, 62, .inl fB)), (aN, .inl (K.1, 62, .inl fN)), (aL, .inl (K.2.1, 62, .inl fL)), (aT, .inl (K.2.2, 992, .inl (bd_app fT 0 (bd_tx fS fA fB fN fL i))))] ∧ va_S A s.heap H locs ∧ lv_has ls 2 [(1, .int (nI i)), (0, .ref h0)]) (fun (i : Nat) => cnt - i) (fun z H locs ls hI ih => ?_) 0 ⟨Nat.zero_le _, hP, hD, hS, lv_sub hl [0, 1] rfl⟩
  obtain ⟨i, rfl⟩ : ∃ y, y = z := ⟨_, rfl⟩
  obtain ⟨hi, hP, hD, hS, hl⟩ := hI
  have hP : va_P D vwCl [(h0, .inr (1, [.long seed, .ref hM, .ref hO, .int (nI cnt), .ref aS, .ref aA, .ref aB, .ref aN, .ref aM, .ref aL, .int vb, .int vs, .ref aT, .int (nI (0 + (bd_tx fS fA fB fN fL i).length))])), (aS, .inl (K.1, 62, .inl fS)), (aA, .inl (K.1, 62, .inl fA)), (aB, .inl (K.1, 62, .inl fB)), (aN, .inl (K.1, 62, .inl fN)), (aL, .inl (K.2.1, 62, .inl fL)), (aT, .inl (K.2.2, 992, .inl (bd_app fT 0 (bd_tx fS fA fB fN fL i))))] H := hP
  have hD : va_D A [(h0, .inr (1, [.long seed, .ref hM, .ref hO, .int (nI cnt), .ref aS, .ref aA, .ref aB, .ref aN, .ref aM, .ref aL, .int vb, .int vs, .ref aT, .int (nI (0 + (bd_tx fS fA fB fN fL i).length))])), (aS, .inl (K.1, 62, .inl fS)), (aA, .inl (K.1, 62, .inl fA)), (aB, .inl (K.1, 62, .inl fB)), (aN, .inl (K.1, 62, .inl fN)), (aL, .inl (K.2.1, 62, .inl fL)), (aT, .inl (K.2.2, 992, .inl (bd_app fT 0 (bd_tx fS fA fB fN fL i))))] := hD
  have hl : lv_has ls 2 [(1, .int (nI i)), (0, .ref h0)] := hl
  refine lv_iload_n hx hb d_B_writeText_7 rfl (lv_at hl 0 rfl) ?_
  refine lv_aload_n hx hb d_B_writeText_8 rfl (lv_at hl 1 rfl) ?_
  refine va_get (D := D) (ci := 1) (v := .int (nI cnt)) (C := "BuildDrawer") (T := TB) (N := 14) hx hb hw inB hown hK hP 0 rfl rfl 3 (by decide) (hw _ k_59) (fun _ h9 => h9) rfl d_B_writeText_9 ?_
  refine lv_icmp_ge (tgt := 43) hx hb d_B_writeText_12 (by decide) (fun r_12 => ?_) (fun r_12 => ?_)
  · have c_12 := (nI_leI (a := cnt) (b := i) (by omega) (by omega)).mp r_12
    exact cx_vret hx hb hr hlocks hK hP hD hS d_B_writeText_43 (by rw [show i = cnt by omega])
  · have c_12 := mt (nI_leI (a := cnt) (b := i) (by omega) (by omega)).mpr r_12
    refine lv_aload_n hx hb d_B_writeText_15 rfl (lv_at hl 1 rfl) ?_
    refine lv_iload_n hx hb d_B_writeText_16 rfl (lv_at hl 0 rfl) ?_
    refine cx_ci (wr := [(aS, .inl (K.1, 62, .inl fS)), (aA, .inl (K.1, 62, .inl fA)), (aB, .inl (K.1, 62, .inl fB)), (aN, .inl (K.1, 62, .inl fN)), (aL, .inl (K.2.1, 62, .inl fL)), (aT, .inl (K.2.2, 992, .inl (bd_app fT 0 (bd_tx fS fA fB fN fL i))))]) (wN := [(h0, .inr (1, [.long seed, .ref hM, .ref hO, .int (nI cnt), .ref aS, .ref aA, .ref aB, .ref aN, .ref aM, .ref aL, .int vb, .int vs, .ref aT, .int (nI (0 + (bd_tx fS fA fB fN fL i).length))])), (aS, .inl (K.1, 62, .inl fS)), (aA, .inl (K.1, 62, .inl fA)), (aB, .inl (K.1, 62, .inl fB)), (aN, .inl (K.1, 62, .inl fN)), (aL, .inl (K.2.1, 62, .inl fL)), (aT, .inl (K.2.2, 992, .inl (bd_app fT 0 (bd_tx fS fA fB fN fL i))))]) (va_runV (As := [.int (nI i)]) (rest := []) ⟨hx, hb, hml, hown, hw⟩ (c_B_isPart l G D K H.size h0 seed hM hO cnt aS aA aB aN aM aL vb vs aT (nI (0 + (bd_tx fS fA fB fN fL i).length)) (nI i)) (cwV 1 hw (cx_gV k_153 k_155 ks_B_isPart k_1 k_156) rfl rfl rfl (by decide +kernel) ⟨Nat.le_of_ble_eq_true rfl, Nat.le_of_ble_eq_true rfl⟩) (cx_preV (q0 := 0) (ci := 1) hK hP hD hS hA hE rfl rfl [0] rfl rfl (by decide)) rfl rfl hl.1 rfl (lv_room (Nat.le_of_ble_eq_true rfl)) d_B_writeText_17 ⟨Nat.le_of_ble_eq_true rfl, Nat.le_of_ble_eq_true rfl⟩) hP hD hS hA [0] [1, 2, 3, 4, 5, 6] rfl rfl (by decide) (by decide) [6, 0, 1, 2, 3, 4, 5] rfl rfl (by decide) (fun H locs hP hD hS => ?_)
    refine cx_ti (y := 1) (bd_ip_in hcnt (by omega)) ?_
    refine lv_if_eq (tgt := 37) hx hb d_B_writeText_20 (by decide) (fun r_20 => ?_) (fun r_20 => ?_)
    · have c_20 := r_20
      exact absurd r_20 (by decide)
    · have c_20 := r_20
      refine lv_aload_n hx hb d_B_writeText_23 rfl (lv_at hl 1 rfl) ?_
      refine va_get (D := D) (ci := 1) (v := .ref aL) (C := "BuildDrawer") (T := TB) (N := 14) hx hb hw inB hown hK hP 0 rfl rfl 9 (by decide) (hw _ k_65) (fun _ h9 => h9) rfl d_B_writeText_24 ?_
      refine lv_iload_n hx hb d_B_writeText_27 rfl (lv_at hl 0 rfl) ?_
      refine va_zald hx hb hK hP 5 1 rfl rfl (vp_in_nI (n := i) (by omega) (by omega)) d_B_writeText_28 ?_
      refine cx_ti (y := fL i) (by rw [nI_clamp (by omega)]) ?_
      refine lv_if_eq (tgt := 37) hx hb d_B_writeText_29 (by decide) (fun r_29 => ?_) (fun r_29 => ?_)
      · have c_29 := r_29
        have e_i : (bd_tx fS fA fB fN fL (i + 1)) = (bd_tx fS fA fB fN fL i) := by rw [bd_tx, if_pos r_29]
        rw [← e_i] at hP hD
        refine lv_iinc (v := nI (i + 1)) (lv' := [(1, .int (nI (i + 1))), (0, .ref h0)]) hx hb d_B_writeText_37 hl (k := 0) rfl (by exact cx_inc i) (by decide) rfl (fun ls hl => ?_)
        refine lv_goto (tgt := 7) hx hb d_B_writeText_40 (by decide) ?_
        exact ih (i + 1) _ _ _ ⟨(by omega), hP, hD, hS, lv_sub hl [0, 1] rfl⟩ (by omega)
      · have c_29 := r_29
        have e_i : (bd_tx fS fA fB fN fL (i + 1)) = (bd_tx fS fA fB fN fL i) ++ bd_pt i (fS i) (fA i) (fB i) (fN i) := by rw [bd_tx, if_neg r_29]
        refine lv_aload_n hx hb d_B_writeText_32 rfl (lv_at hl 1 rfl) ?_
        refine lv_iload_n hx hb d_B_writeText_33 rfl (lv_at hl 0 rfl) ?_
        refine cx_cv (wr := [(aL, .inl (K.2.1, 62, .inl fL))]) (wN := [(h0, .inr (1, [.long seed, .ref hM, .ref hO, .int (nI cnt), .ref aS, .ref aA, .ref aB, .ref aN, .ref aM, .ref aL, .int vb, .int vs, .ref aT, .int (nI (0 + (bd_tx fS fA fB fN fL i).length + (bd_pt i (fS i) (fA i) (fB i) (fN i)).length))])), (aS, .inl (K.1, 62, .inl fS)), (aA, .inl (K.1, 62, .inl fA)), (aB, .inl (K.1, 62, .inl fB)), (aN, .inl (K.1, 62, .inl fN)), (aL, .inl (K.2.1, 62, .inl fL)), (aT, .inl (K.2.2, 992, .inl (bd_app (bd_app fT 0 (bd_tx fS fA fB fN fL i)) (0 + (bd_tx fS fA fB fN fL i).length) (bd_pt i (fS i) (fA i) (fB i) (fN i)))))]) (va_runV (As := [.int (nI i)]) (rest := []) ⟨hx, hb, hml, hown, hw⟩ (c_B_writePart l G D K H.size h0 seed hM hO cnt aS aA aB aN aM aL vb vs aT (0 + (bd_tx fS fA fB fN fL i).length) fS fA fB fN (bd_app fT 0 (bd_tx fS fA fB fN fL i)) i (by omega) (by omega) (by have := bd_tx_len (fL := fL) (n := i) (by omega) (fun j hj => hok j (by omega)); omega) (hok i (by omega))) (cwV 1 hw (cx_gV k_177 k_179 ks_B_writePart k_1 k_180) rfl rfl rfl (by decide +kernel) ⟨Nat.le_of_ble_eq_true rfl, Nat.le_of_ble_eq_true rfl⟩) (cx_preV (q0 := 0) (ci := 1) hK hP hD hS hA hE rfl rfl [0, 1, 2, 3, 4, 6] rfl rfl (by decide)) rfl rfl hl.1 rfl (lv_room (Nat.le_of_ble_eq_true rfl)) d_B_writeText_34 ⟨Nat.le_of_ble_eq_true rfl, Nat.le_of_ble_eq_true rfl⟩) hP hD hS hA [0, 1, 2, 3, 4, 6] [5] rfl rfl (by decide) (by decide) [1, 2, 3, 4, 5, 0, 6] rfl rfl (by decide) (fun H locs hP hD hS => ?_)
        rw [bd_app_app, bd_tl, ← e_i] at hP hD
        have hP : va_P D vwCl [(h0, .inr (1, [.long seed, .ref hM, .ref hO, .int (nI cnt), .ref aS, .ref aA, .ref aB, .ref aN, .ref aM, .ref aL, .int vb, .int vs, .ref aT, .int (nI (0 + (bd_tx fS fA fB fN fL (i + 1)).length))])), (aS, .inl (K.1, 62, .inl fS)), (aA, .inl (K.1, 62, .inl fA)), (aB, .inl (K.1, 62, .inl fB)), (aN, .inl (K.1, 62, .inl fN)), (aL, .inl (K.2.1, 62, .inl fL)), (aT, .inl (K.2.2, 992, .inl (bd_app fT 0 (bd_tx fS fA fB fN fL (i + 1)))))] H := hP
        have hD : va_D A [(h0, .inr (1, [.long seed, .ref hM, .ref hO, .int (nI cnt), .ref aS, .ref aA, .ref aB, .ref aN, .ref aM, .ref aL, .int vb, .int vs, .ref aT, .int (nI (0 + (bd_tx fS fA fB fN fL (i + 1)).length))])), (aS, .inl (K.1, 62, .inl fS)), (aA, .inl (K.1, 62, .inl fA)), (aB, .inl (K.1, 62, .inl fB)), (aN, .inl (K.1, 62, .inl fN)), (aL, .inl (K.2.1, 62, .inl fL)), (aT, .inl (K.2.2, 992, .inl (bd_app fT 0 (bd_tx fS fA fB fN fL (i + 1)))))] := hD
        refine lv_iinc (v := nI (i + 1)) (lv' := [(1, .int (nI (i + 1))), (0, .ref h0)]) hx hb d_B_writeText_37 hl (k := 0) rfl (by exact cx_inc i) (by decide) rfl (fun ls hl => ?_)
        refine lv_goto (tgt := 7) hx hb d_B_writeText_40 (by decide) ?_
        exact ih (i + 1) _ _ _ ⟨(by omega), hP, hD, hS, lv_sub hl [0, 1] rfl⟩ (by omega)
set_option maxHeartbeats 4000000 in
set_option maxRecDepth 100000 in
theorem c_B_letter (l : Launch) (G : cx_G) (D : va_G) (K : cx_KT) (sz : Nat) (h0 : Nat) (seed : Int64) (hM : Nat) (hO : Nat) (cnt : Nat) (aS : Nat) (aA : Nat) (aB : Nat) (aN : Nat) (aM : Nat) (aL : Nat) (vb : Int32) (vs : Int32) (aT : Nat) (fS : Nat → Int32) (fA : Nat → Int32) (fB : Nat → Int32) (fN : Nat → Int32) (fL : Nat → Int32) (fT : Nat → Int32) (i : Int32) (hcnt : cnt ≤ 62) (hok : ∀ j, j < cnt → bd_ok (fS j) (fA j) (fB j) (fN j)) : Met l y_B_letter w_B_letter ({ frames := 7, cells := 0, slots := 0, locals := 147 }) (cx_Pc G D (cx_ty K) [(h0, .inr (1, [.long seed, .ref hM, .ref hO, .int (nI cnt), .ref aS, .ref aA, .ref aB, .ref aN, .ref aM, .ref aL, .int vb, .int vs, .ref aT, .int (-1)])), (aS, .inl (K.1, 62, .inl fS)), (aA, .inl (K.1, 62, .inl fA)), (aB, .inl (K.1, 62, .inl fB)), (aN, .inl (K.1, 62, .inl fN)), (aL, .inl (K.2.1, 62, .inl fL)), (aT, .inl (K.2.2, 992, .inl fT))] sz [.ref h0, .int i]) (cx_Qi (bd_ch (bd_tx fS fA fB fN fL cnt) i) D (cx_ty K) [(h0, .inr (1, [.long seed, .ref hM, .ref hO, .int (nI cnt), .ref aS, .ref aA, .ref aB, .ref aN, .ref aM, .ref aL, .int vb, .int vs, .ref aT, .int (nI (0 + (bd_tx fS fA fB fN fL cnt).length))])), (aS, .inl (K.1, 62, .inl fS)), (aA, .inl (K.1, 62, .inl fA)), (aB, .inl (K.1, 62, .inl fB)), (aN, .inl (K.1, 62, .inl fN)), (aL, .inl (K.2.1, 62, .inl fL)), (aT, .inl (K.2.2, 992, .inl (bd_app fT 0 (bd_tx fS fA fB fN fL cnt))))] (va_A [(h0, .inr (1, [.long seed, .ref hM, .ref hO, .int (nI cnt), .ref aS, .ref aA, .ref aB, .ref aN, .ref aM, .ref aL, .int vb, .int vs, .ref aT, .int (-1)])), (aS, .inl (K.1, 62, .inl fS)), (aA, .inl (K.1, 62, .inl fA)), (aB, .inl (K.1, 62, .inl fB)), (aN, .inl (K.1, 62, .inl fN)), (aL, .inl (K.2.1, 62, .inl fL)), (aT, .inl (K.2.2, 992, .inl fT))] sz)) 0 0 (va_A [(h0, .inr (1, [.long seed, .ref hM, .ref hO, .int (nI cnt), .ref aS, .ref aA, .ref aB, .ref aN, .ref aM, .ref aL, .int vb, .int vs, .ref aT, .int (-1)])), (aS, .inl (K.1, 62, .inl fS)), (aA, .inl (K.1, 62, .inl fA)), (aB, .inl (K.1, 62, .inl fB)), (aN, .inl (K.1, 62, .inl fN)), (aL, .inl (K.2.1, 62, .inl fL)), (aT, .inl (K.2.2, 992, .inl fT))] sz) := by
  refine Met.ofW (cc := prog_1_method_4_code) (maxL := 2) (ret := (some .int)) (by decide) rfl ?_
  intro p e s m args below meth c s₁ B hml hv
  obtain ⟨rfl, hsz, hP, hK, hD0, hE⟩ := hv
  have hx := B.exec
  have hb := B.bytes
  have hr := B.returns
  have hts := atoms_spec (ws := w_B_letter) B.pre
  have hw : ∀ w ∈ cw, w.before _ s = true := fun w h => hts w (List.mem_cons_of_mem _ h)
  have hown : s.vm.findClass "BuildDrawer" = some m.cls := findClass_of_methodNamed B.named
  have hlocks := B.notSynchronized
  subst hsz
  have hD := hD0.self (sz := s.heap.size)
  generalize hAe : va_A [(h0, .inr (1, [.long seed, .ref hM, .ref hO, .int (nI cnt), .ref aS, .ref aA, .ref aB, .ref aN, .ref aM, .ref aL, .int vb, .int vs, .ref aT, .int (-1)])), (aS, .inl (K.1, 62, .inl fS)), (aA, .inl (K.1, 62, .inl fA)), (aB, .inl (K.1, 62, .inl fB)), (aN, .inl (K.1, 62, .inl fN)), (aL, .inl (K.2.1, 62, .inl fL)), (aT, .inl (K.2.2, 992, .inl fT))] s.heap.size = A at hD hE ⊢
  have hA : ∀ q : Nat, s.heap.size ≤ q → A q := fun q h => by rw [← hAe]; exact Or.inr h
  have hS : va_S A s.heap s.heap [] := va_S.rf
  have hl := lv_entry ([.ref h0, .int i]) (n := 2) (Nat.le_of_ble_eq_true rfl)
  rw [lg_entry_eq]
  generalize (lg_sl ([.ref h0, .int i]) ++ List.replicate (2 - (lg_sl ([.ref h0, .int i])).length) Slot.unset).toArray = ls at hl ⊢
  have hl : lv_has ls 2 [(0, .ref h0), (1, .int i)] := hl
  have hlen := bd_tx_len (fL := fL) (n := cnt) hcnt hok
  refine lv_aload_n hx hb d_B_letter_0 rfl (lv_at hl 0 rfl) ?_
  refine va_get (D := D) (ci := 1) (v := .int (-1)) (C := "BuildDrawer") (T := TB) (N := 14) hx hb hw inB hown hK hP 0 rfl rfl 13 (by decide) (hw _ k_69) (fun _ h9 => h9) rfl d_B_letter_1 ?_
  refine lv_iconst (v := (-1)) hx hb d_B_letter_4 (by decide) ?_
  refine lv_icmp_ne (tgt := 12) hx hb d_B_letter_5 (by decide) (fun r_5 => ?_) (fun r_5 => ?_)
  · have c_5 := r_5
    exact absurd rfl r_5
  · have c_5 := r_5
    refine lv_aload_n hx hb d_B_letter_8 rfl (lv_at hl 0 rfl) ?_
    refine cx_cv (wr := []) (wN := [(h0, .inr (1, [.long seed, .ref hM, .ref hO, .int (nI cnt), .ref aS, .ref aA, .ref aB, .ref aN, .ref aM, .ref aL, .int vb, .int vs, .ref aT, .int (nI (0 + (bd_tx fS fA fB fN fL cnt).length))])), (aS, .inl (K.1, 62, .inl fS)), (aA, .inl (K.1, 62, .inl fA)), (aB, .inl (K.1, 62, .inl fB)), (aN, .inl (K.1, 62, .inl fN)), (aL, .inl (K.2.1, 62, .inl fL)), (aT, .inl (K.2.2, 992, .inl (bd_app fT 0 (bd_tx fS fA fB fN fL cnt))))]) (va_runV (As := []) (rest := []) ⟨hx, hb, hml, hown, hw⟩ (c_B_writeText l G D K s.heap.size h0 seed hM hO cnt aS aA aB aN aM aL vb vs aT (-1) fS fA fB fN fL fT (by omega) hok) (cwV 0 hw (cx_gV k_173 k_175 ks_B_writeText k_1 k_176) rfl rfl rfl (by decide +kernel) ⟨Nat.le_of_ble_eq_true rfl, Nat.le_of_ble_eq_true rfl⟩) (cx_preV (q0 := 0) (ci := 1) hK hP hD hS hA hE rfl rfl [0, 1, 2, 3, 4, 5, 6] rfl rfl (by decide)) rfl rfl hl.1 rfl (lv_room (Nat.le_of_ble_eq_true rfl)) d_B_letter_9 ⟨Nat.le_of_ble_eq_true rfl, Nat.le_of_ble_eq_true rfl⟩) hP hD hS hA [0, 1, 2, 3, 4, 5, 6] [] rfl rfl (by decide) (by decide) [0, 1, 2, 3, 4, 5, 6] rfl rfl (by decide) (fun H locs hP hD hS => ?_)
    refine lv_iload_n hx hb d_B_letter_12 rfl (lv_at hl 1 rfl) ?_
    refine lv_if_lt (tgt := 31) hx hb d_B_letter_13 (by decide) (fun r_13 => ?_) (fun r_13 => ?_)
    · have c_13 := r_13
      refine lv_iconst (v := (-1)) hx hb d_B_letter_31 (by decide) ?_
      exact cx_iret hx hb hr hlocks hK hP hD hS d_B_letter_32 (by rw [bd_ch, if_pos r_13]) (rfl)
    · have c_13 := r_13
      refine lv_iload_n hx hb d_B_letter_16 rfl (lv_at hl 1 rfl) ?_
      refine lv_aload_n hx hb d_B_letter_17 rfl (lv_at hl 0 rfl) ?_
      refine va_get (D := D) (ci := 1) (v := .int (nI (0 + (bd_tx fS fA fB fN fL cnt).length))) (C := "BuildDrawer") (T := TB) (N := 14) hx hb hw inB hown hK hP 0 rfl rfl 13 (by decide) (hw _ k_69) (fun _ h9 => h9) rfl d_B_letter_18 ?_
      refine lv_icmp_ge (tgt := 31) hx hb d_B_letter_21 (by decide) (fun r_21 => ?_) (fun r_21 => ?_)
      · have c_21 := r_21
        rw [Nat.zero_add] at r_21
        refine lv_iconst (v := (-1)) hx hb d_B_letter_31 (by decide) ?_
        exact cx_iret hx hb hr hlocks hK hP hD hS d_B_letter_32 (by rw [bd_ch, if_neg r_13, if_pos r_21]) (rfl)
      · have c_21 := r_21
        rw [Nat.zero_add] at r_21
        obtain ⟨j9, hj9, rfl⟩ : ∃ j, j < (bd_tx fS fA fB fN fL cnt).length ∧ i = nI j := by
          rcases pk_ix i (n := (bd_tx fS fA fB fN fL cnt).length) (by omega) with h | h | h
          · exact absurd h r_13
          · exact absurd h r_21
          · exact h
        refine lv_iload_n hx hb d_B_letter_24 rfl (lv_at hl 1 rfl) ?_
        refine lv_sipush (v := 992) hx hb d_B_letter_25 (by decide) ?_
        refine lv_icmp_lt (tgt := 33) hx hb d_B_letter_28 (by decide) (fun r_28 => ?_) (fun r_28 => ?_)
        · have c_28 := (nI_ltI (a := j9) (b := 992) (by omega) (by omega)).mp r_28
          refine lv_aload_n hx hb d_B_letter_33 rfl (lv_at hl 0 rfl) ?_
          refine va_get (D := D) (ci := 1) (v := .ref aT) (C := "BuildDrawer") (T := TB) (N := 14) hx hb hw inB hown hK hP 0 rfl rfl 12 (by decide) (hw _ k_68) (fun _ h9 => h9) rfl d_B_letter_34 ?_
          refine lv_iload_n hx hb d_B_letter_37 rfl (lv_at hl 1 rfl) ?_
          refine va_cald hx hb hK hP 6 2 rfl rfl (vp_in_nI (n := j9) (by omega) (by omega)) d_B_letter_38 ?_
          refine cx_ti (y := (bd_app fT 0 (bd_tx fS fA fB fN fL cnt)) j9) (by rw [nI_clamp (by omega)]) ?_
          exact cx_iret hx hb hr hlocks hK hP hD hS d_B_letter_39 (by rw [bd_ch, if_neg r_13, if_neg r_21, nI_clamp (by omega)]; exact (if_pos ⟨Nat.zero_le _, by omega⟩).trans (by rw [Nat.sub_zero])) (rfl)
        · have c_28 := mt (nI_ltI (a := j9) (b := 992) (by omega) (by omega)).mpr r_28
          omega
set_option maxHeartbeats 4000000 in
set_option maxRecDepth 100000 in
theorem c_B_letterC (l : Launch) (G : cx_G) (D : va_G) (K : cx_KT) (sz : Nat) (h0 : Nat) (seed : Int64) (hM : Nat) (hO : Nat) (cnt : Nat) (aS : Nat) (aA : Nat) (aB : Nat) (aN : Nat) (aM : Nat) (aL : Nat) (vb : Int32) (vs : Int32) (aT : Nat) (fT : Nat → Int32) (Lx : List Nat) (i : Int32) (hL : Lx.length ≤ 992) (hT : ∀ j, j < Lx.length → fT j = nI (Lx.getD j 0)) : Met l y_B_letter w_B_letter ({ frames := 0, cells := 0, slots := 0, locals := 0 }) (cx_Pc G D (cx_ty K) [(h0, .inr (1, [.long seed, .ref hM, .ref hO, .int (nI cnt), .ref aS, .ref aA, .ref aB, .ref aN, .ref aM, .ref aL, .int vb, .int vs, .ref aT, .int (nI Lx.length)])), (aT, .inl (K.2.2, 992, .inl fT))] sz [.ref h0, .int i]) (cx_Qi (bd_ch Lx i) D (cx_ty K) [(h0, .inr (1, [.long seed, .ref hM, .ref hO, .int (nI cnt), .ref aS, .ref aA, .ref aB, .ref aN, .ref aM, .ref aL, .int vb, .int vs, .ref aT, .int (nI Lx.length)])), (aT, .inl (K.2.2, 992, .inl fT))] (va_A [(h0, .inr (1, [.long seed, .ref hM, .ref hO, .int (nI cnt), .ref aS, .ref aA, .ref aB, .ref aN, .ref aM, .ref aL, .int vb, .int vs, .ref aT, .int (nI Lx.length)])), (aT, .inl (K.2.2, 992, .inl fT))] sz)) 0 0 (va_A [(h0, .inr (1, [.long seed, .ref hM, .ref hO, .int (nI cnt), .ref aS, .ref aA, .ref aB, .ref aN, .ref aM, .ref aL, .int vb, .int vs, .ref aT, .int (nI Lx.length)])), (aT, .inl (K.2.2, 992, .inl fT))] sz) := by
  refine Met.ofW (cc := prog_1_method_4_code) (maxL := 2) (ret := (some .int)) (by decide) rfl ?_
  intro p e s m args below meth c s₁ B hml hv
  obtain ⟨rfl, hsz, hP, hK, hD0, hE⟩ := hv
  have hx := B.exec
  have hb := B.bytes
  have hr := B.returns
  have hts := atoms_spec (ws := w_B_letter) B.pre
  have hw : ∀ w ∈ cw, w.before _ s = true := fun w h => hts w (List.mem_cons_of_mem _ h)
  have hown : s.vm.findClass "BuildDrawer" = some m.cls := findClass_of_methodNamed B.named
  have hlocks := B.notSynchronized
  subst hsz
  have hD := hD0.self (sz := s.heap.size)
  generalize hAe : va_A [(h0, .inr (1, [.long seed, .ref hM, .ref hO, .int (nI cnt), .ref aS, .ref aA, .ref aB, .ref aN, .ref aM, .ref aL, .int vb, .int vs, .ref aT, .int (nI Lx.length)])), (aT, .inl (K.2.2, 992, .inl fT))] s.heap.size = A at hD hE ⊢
  have hA : ∀ q : Nat, s.heap.size ≤ q → A q := fun q h => by rw [← hAe]; exact Or.inr h
  have hS : va_S A s.heap s.heap [] := va_S.rf
  have hl := lv_entry ([.ref h0, .int i]) (n := 2) (Nat.le_of_ble_eq_true rfl)
  rw [lg_entry_eq]
  generalize (lg_sl ([.ref h0, .int i]) ++ List.replicate (2 - (lg_sl ([.ref h0, .int i])).length) Slot.unset).toArray = ls at hl ⊢
  have hl : lv_has ls 2 [(0, .ref h0), (1, .int i)] := hl
  refine lv_aload_n hx hb d_B_letter_0 rfl (lv_at hl 0 rfl) ?_
  refine va_get (D := D) (ci := 1) (v := .int (nI Lx.length)) (C := "BuildDrawer") (T := TB) (N := 14) hx hb hw inB hown hK hP 0 rfl rfl 13 (by decide) (hw _ k_69) (fun _ h9 => h9) rfl d_B_letter_1 ?_
  refine lv_iconst (v := (-1)) hx hb d_B_letter_4 (by decide) ?_
  refine lv_icmp_ne (tgt := 12) hx hb d_B_letter_5 (by decide) (fun r_5 => ?_) (fun r_5 => ?_)
  · have c_5 := r_5
    refine lv_iload_n hx hb d_B_letter_12 rfl (lv_at hl 1 rfl) ?_
    refine lv_if_lt (tgt := 31) hx hb d_B_letter_13 (by decide) (fun r_13 => ?_) (fun r_13 => ?_)
    · have c_13 := r_13
      refine lv_iconst (v := (-1)) hx hb d_B_letter_31 (by decide) ?_
      exact cx_iret hx hb hr hlocks hK hP hD hS d_B_letter_32 (by rw [bd_ch, if_pos r_13]) (rfl)
    · have c_13 := r_13
      refine lv_iload_n hx hb d_B_letter_16 rfl (lv_at hl 1 rfl) ?_
      refine lv_aload_n hx hb d_B_letter_17 rfl (lv_at hl 0 rfl) ?_
      refine va_get (D := D) (ci := 1) (v := .int (nI Lx.length)) (C := "BuildDrawer") (T := TB) (N := 14) hx hb hw inB hown hK hP 0 rfl rfl 13 (by decide) (hw _ k_69) (fun _ h9 => h9) rfl d_B_letter_18 ?_
      refine lv_icmp_ge (tgt := 31) hx hb d_B_letter_21 (by decide) (fun r_21 => ?_) (fun r_21 => ?_)
      · have c_21 := r_21
        refine lv_iconst (v := (-1)) hx hb d_B_letter_31 (by decide) ?_
        exact cx_iret hx hb hr hlocks hK hP hD hS d_B_letter_32 (by rw [bd_ch, if_neg r_13, if_pos r_21]) (rfl)
      · have c_21 := r_21
        obtain ⟨j9, hj9, rfl⟩ : ∃ j, j < Lx.length ∧ i = nI j := by
          rcases pk_ix i (n := Lx.length) (by omega) with h | h | h
          · exact absurd h r_13
          · exact absurd h r_21
          · exact h
        refine lv_iload_n hx hb d_B_letter_24 rfl (lv_at hl 1 rfl) ?_
        refine lv_sipush (v := 992) hx hb d_B_letter_25 (by decide) ?_
        refine lv_icmp_lt (tgt := 33) hx hb d_B_letter_28 (by decide) (fun r_28 => ?_) (fun r_28 => ?_)
        · have c_28 := (nI_ltI (a := j9) (b := 992) (by omega) (by omega)).mp r_28
          refine lv_aload_n hx hb d_B_letter_33 rfl (lv_at hl 0 rfl) ?_
          refine va_get (D := D) (ci := 1) (v := .ref aT) (C := "BuildDrawer") (T := TB) (N := 14) hx hb hw inB hown hK hP 0 rfl rfl 12 (by decide) (hw _ k_68) (fun _ h9 => h9) rfl d_B_letter_34 ?_
          refine lv_iload_n hx hb d_B_letter_37 rfl (lv_at hl 1 rfl) ?_
          refine va_cald hx hb hK hP 1 2 rfl rfl (vp_in_nI (n := j9) (by omega) (by omega)) d_B_letter_38 ?_
          refine cx_ti (y := fT j9) (by rw [nI_clamp (by omega)]) ?_
          exact cx_iret hx hb hr hlocks hK hP hD hS d_B_letter_39 (by rw [bd_ch, if_neg r_13, if_neg r_21, nI_clamp (by omega)]; exact hT j9 hj9) (rfl)
        · have c_28 := mt (nI_ltI (a := j9) (b := 992) (by omega) (by omega)).mpr r_28
          omega
  · have c_5 := r_5
    exact absurd r_5 (bd_nm1 (by omega))
end
section
section CXN
variable {p : Program} {l : Launch} {e : Env} {R : Room} {s : State} {m : MethodId} {args : Array Value} {below : List Frame} {meth : Method} {c : Code} {H : Heap} {locs : List Loc} {cells slots : Nat} {Q : State → Prop}
variable {cc : ByteArray} {pc : Nat} {ls : Array Slot} {rest : List Value} {D : va_G} {A : Nat → Prop} {tys : List (ClassId × FieldType)} {ws : va_W} {H0 : Heap}
theorem cx_newa (hexec : p.tables.exec = Jvm.exec) (hb : c.code = cc) {atype : ArrayType} (harr : (Cond.arrayClass (newarray.typeOf atype)).before args s = true) {ty : FieldType} (hty : newarray.typeOf atype = ty) (hRA : ∀ c9 : ClassId, va_RA s c9 ty → s.vm.findClass ("[" ++ ty.toString) = some c9) (hK : va_K D vwCl tys s) (t0 : Nat) {cA : ClassId} (ht : tys[t0]? = some (cA, ty)) (hP : va_P D vwCl ws H) (hD : va_D A ws) (hS : va_S A H0 H locs) (hA : ∀ q, H0.size ≤ q → A q) {a0 : vp_A} {N9 : Nat} (ha : ∀ cA : ClassId, vp_cell cA a0 = arrV cA N9 (fun _ => defaultValue ty)) {n : Int32} (hn : ¬ n < 0) (hN : n.toNatClampNeg = N9) (hbytes : N9 * componentBytes ty ≤ 536870912) (hcells : cells + 1 ≤ R.cells) (hslots : slots + N9 ≤ R.slots) (hdg : decode cc pc = .ok (.newarray atype, 2))
    (kk : ∀ (q : Nat) (H1 : Heap), va_P D vwCl (ws ++ [(q, .inl (cA, a0))]) H1 → va_D A (ws ++ [(q, .inl (cA, a0))]) → va_S A H0 H1 locs → W p l e R s m args below meth c H1 locs (cells + 1) (slots + N9) Q (F0 m (pc + 2) ls (.ref q :: rest))) : W p l e R s m args below meth c H locs cells slots Q (F0 m pc ls (.int n :: rest)) := by
  refine va_newa hexec hb harr hty hK hP hD hS hA ha hn hN hbytes hcells hslots hdg (fun q c9 H1 hK1 hP1 hD1 hS1 => ?_)
  have e1 := hRA c9 (hK1.2 tys.length (c9, ty) (by simp)).2
  have e2 := hRA cA (hK.2 t0 (cA, ty) ht).2
  have e3 : c9 = cA := Option.some.inj (e1.symm.trans e2)
  rw [e3] at hP1 hD1
  exact kk q H1 hP1 hD1 hS1
/-- a constructor's end: the addresses of what it made are not told -/
def cx_Qu (D : va_G) (tys : List (ClassId × FieldType)) (w1 : (Nat → Nat) → va_W) (A : Nat → Prop) : Array Value → State → Outcome → State → Prop := va_Qv (S := Nat → Nat) (fun _ => True) (fun u => cx_B D tys A (w1 u)) A
theorem cx_vretu {w : va_W} {w1 : (Nat → Nat) → va_W} (hx : p.tables.exec = Jvm.exec) (hb : c.code = cc) (hr : meth.sig.returnType = none) (hlocks : meth.locks = false) (hK : va_K D vwCl tys s) (hP : va_P D vwCl w H) (hD : va_D A w) (hS : va_S A s.heap H locs) (hdg : decode cc pc = .ok (.return_, 1)) (u : Nat → Nat) (hw : w = w1 u) : W p l e R s m args below meth c H locs cells slots (MQ below (cx_Qu D tys w1 A) args s cells slots A) (F0 m pc ls []) := by
  subst hw
  exact W.vret hx hb hr (fun t ht hW => ⟨⟨u, rfl, trivial, by rw [ht]; exact hP, va_K.moved hW.alike hK, hD⟩, hS.F ht⟩) hS.2.2 hdg hlocks
end CXN
set_option maxHeartbeats 4000000 in
set_option maxRecDepth 100000 in
theorem c_B_init (l : Launch) (G : cx_G) (D : va_G) (K : cx_KT) (sz : Nat) (h0 : Nat) (seed : Int64)  : Met l y_B_init w_B_init ({ frames := 2, cells := 9, slots := 1382, locals := 40 }) (cx_Pc G D (cx_ty K) [(h0, .inr (1, [.long 0, .null, .null, .int 0, .null, .null, .null, .null, .null, .null, .int 0, .int 0, .null, .int 0]))] sz [.ref h0, .long seed]) (cx_Qu D (cx_ty K) (fun u => [(h0, .inr (1, [.long seed, .ref (u 0), .ref (u 1), .int 0, .ref (u 2), .ref (u 3), .ref (u 4), .ref (u 5), .ref (u 6), .ref (u 7), .int 0, .int 1, .ref (u 8), .int (-1)])), ((u 0), .inr (0, [.long 0, .int 0, .int 0, .int (-1), .int 0, .int 0, .int 0, .int (-1), .int 0])), ((u 1), .inr (0, [.long 0, .int 0, .int 0, .int (-1), .int 0, .int 0, .int 0, .int (-1), .int 0])), ((u 2), .inl (K.1, 62, .inl (fun _ => 0))), ((u 3), .inl (K.1, 62, .inl (fun _ => 0))), ((u 4), .inl (K.1, 62, .inl (fun _ => 0))), ((u 5), .inl (K.1, 62, .inl (fun _ => 0))), ((u 6), .inl (K.1, 62, .inl (fun _ => 0))), ((u 7), .inl (K.2.1, 62, .inl (fun _ => 0))), ((u 8), .inl (K.2.2, 992, .inl (fun _ => 0)))]) (va_A [(h0, .inr (1, [.long 0, .null, .null, .int 0, .null, .null, .null, .null, .null, .null, .int 0, .int 0, .null, .int 0]))] sz)) 9 1382 (va_A [(h0, .inr (1, [.long 0, .null, .null, .int 0, .null, .null, .null, .null, .null, .null, .int 0, .int 0, .null, .int 0]))] sz) := by
  refine Met.ofW (cc := prog_1_method_1_code) (maxL := 3) (ret := none) (by decide) rfl ?_
  intro p e s m args below meth c s₁ B hml hv
  obtain ⟨rfl, hsz, hP, hK, hD0, hE⟩ := hv
  have hx := B.exec
  have hb := B.bytes
  have hr := B.returns
  have hts := atoms_spec (ws := w_B_init) B.pre
  have hw : ∀ w ∈ cw, w.before _ s = true := fun w h => hts w (List.mem_cons_of_mem _ h)
  have hown : s.vm.findClass "BuildDrawer" = some m.cls := findClass_of_methodNamed B.named
  have hlocks := B.notSynchronized
  have hin : meth.name = "<init>" := (name_of_methodNamed B.named B.method).1
  subst hsz
  have hD := hD0.self (sz := s.heap.size)
  generalize hAe : va_A [(h0, .inr (1, [.long 0, .null, .null, .int 0, .null, .null, .null, .null, .null, .null, .int 0, .int 0, .null, .int 0]))] s.heap.size = A at hD hE ⊢
  have hA : ∀ q : Nat, s.heap.size ≤ q → A q := fun q h => by rw [← hAe]; exact Or.inr h
  have hS : va_S A s.heap s.heap [] := va_S.rf
  have hl := lv_entry ([.ref h0, .long seed]) (n := 3) (Nat.le_of_ble_eq_true rfl)
  rw [lg_entry_eq]
  generalize (lg_sl ([.ref h0, .long seed]) ++ List.replicate (3 - (lg_sl ([.ref h0, .long seed])).length) Slot.unset).toArray = ls at hl ⊢
  have hl : lv_has ls 3 [(0, .ref h0), (1, .long seed)] := hl
  refine lv_aload_n hx hb d_B_init_0 rfl (lv_at hl 0 rfl) ?_
  refine W.objInit hx hb hown (hw _ k_14) (hw _ k_15) (hw _ k_16) rfl (by rw [hml]; exact hl.1) rfl d_B_init_1 (Nat.le_of_ble_eq_true rfl) (Nat.le_of_ble_eq_true rfl) ?_
  refine W.eq (g2 := F0 m 4 ls []) rfl ?_
  refine lv_aload_n hx hb d_B_init_4 rfl (lv_at hl 0 rfl) ?_
  refine va_new (ci := 0) (fs := [.long 0, .int 0, .int 0, .int 0, .int 0, .int 0, .int 0, .int 0, .int 0]) (C := "BuildDrawer$Drawing") (T := TD) (N := 9) hx hb hw inD tyD tyD_ok hown (hw _ k_17) (hw _ k_18) (hw _ k_2) hK hP hD hS hA rfl (fun j hj => by rcases (show j = 0 ∨ j = 1 ∨ j = 2 ∨ j = 3 ∨ j = 4 ∨ j = 5 ∨ j = 6 ∨ j = 7 ∨ j = 8 by omega) with rfl | rfl | rfl | rfl | rfl | rfl | rfl | rfl | rfl <;> rfl) (Nat.le_of_ble_eq_true rfl) (Nat.le_of_ble_eq_true rfl) d_B_init_5 (fun q5 H hP hD hS => ?_)
  have hP : va_P D vwCl [(h0, .inr (1, [.long 0, .null, .null, .int 0, .null, .null, .null, .null, .null, .null, .int 0, .int 0, .null, .int 0])), (q5, .inr (0, [.long 0, .int 0, .int 0, .int 0, .int 0, .int 0, .int 0, .int 0, .int 0]))] H := hP
  have hD : va_D A [(h0, .inr (1, [.long 0, .null, .null, .int 0, .null, .null, .null, .null, .null, .null, .int 0, .int 0, .null, .int 0])), (q5, .inr (0, [.long 0, .int 0, .int 0, .int 0, .int 0, .int 0, .int 0, .int 0, .int 0]))] := hD
  refine lv_dup hx hb d_B_init_8 rfl ?_
  refine cx_cv (wr := [(h0, .inr (1, [.long 0, .null, .null, .int 0, .null, .null, .null, .null, .null, .null, .int 0, .int 0, .null, .int 0]))]) (wN := [(h0, .inr (1, [.long 0, .null, .null, .int 0, .null, .null, .null, .null, .null, .null, .int 0, .int 0, .null, .int 0])), (q5, .inr (0, [.long 0, .int 0, .int 0, .int (-1), .int 0, .int 0, .int 0, .int (-1), .int 0]))]) (va_runIN (As := []) (rest := [.ref q5, .ref h0]) ⟨hx, hb, hml, hown, hw⟩ (c_D_init l G D K H.size q5 0 0 0 0 0 0 0 0 0) ⟨va_cnB 0 hw (cx_gI k_21) rfl rfl rfl (hE.1 _ kn_19) (hw _ k_2) (by decide +kernel) ⟨Nat.le_of_ble_eq_true rfl, Nat.le_of_ble_eq_true rfl⟩, rfl, hw _ k_20⟩ (cx_pre hK hP hD hS hA hE [1] rfl rfl (by decide)) rfl rfl hl.1 rfl (lv_room (Nat.le_of_ble_eq_true rfl)) d_B_init_9 ⟨Nat.le_of_ble_eq_true rfl, Nat.le_of_ble_eq_true rfl⟩) hP hD hS hA [1] [0] rfl rfl (by decide) (by decide) [0, 1] rfl rfl (by decide) (fun H locs hP hD hS => ?_)
  refine va_putF (D := D) (ci := 1) (v := .ref q5) (ty := .object "BuildDrawer$Drawing") (C := "BuildDrawer") (T := TB) (N := 14) hx hb hw inB tyB tyB_ok nmB hown hK hP hD hS 0 rfl rfl 1 (by decide) (hw _ k_57) (fun _ h9 => h9) rfl hin rfl (by decide +kernel) rfl rfl (Nat.le_of_ble_eq_true rfl) d_B_init_12 (fun H locs hP hD hS => ?_)
  have hP : va_P D vwCl [(h0, .inr (1, [.long 0, .ref q5, .null, .int 0, .null, .null, .null, .null, .null, .null, .int 0, .int 0, .null, .int 0])), (q5, .inr (0, [.long 0, .int 0, .int 0, .int (-1), .int 0, .int 0, .int 0, .int (-1), .int 0]))] H := hP
  have hD : va_D A [(h0, .inr (1, [.long 0, .ref q5, .null, .int 0, .null, .null, .null, .null, .null, .null, .int 0, .int 0, .null, .int 0])), (q5, .inr (0, [.long 0, .int 0, .int 0, .int (-1), .int 0, .int 0, .int 0, .int (-1), .int 0]))] := hD
  refine lv_aload_n hx hb d_B_init_15 rfl (lv_at hl 0 rfl) ?_
  refine va_new (ci := 0) (fs := [.long 0, .int 0, .int 0, .int 0, .int 0, .int 0, .int 0, .int 0, .int 0]) (C := "BuildDrawer$Drawing") (T := TD) (N := 9) hx hb hw inD tyD tyD_ok hown (hw _ k_17) (hw _ k_18) (hw _ k_2) hK hP hD hS hA rfl (fun j hj => by rcases (show j = 0 ∨ j = 1 ∨ j = 2 ∨ j = 3 ∨ j = 4 ∨ j = 5 ∨ j = 6 ∨ j = 7 ∨ j = 8 by omega) with rfl | rfl | rfl | rfl | rfl | rfl | rfl | rfl | rfl <;> rfl) (Nat.le_of_ble_eq_true rfl) (Nat.le_of_ble_eq_true rfl) d_B_init_16 (fun q16 H hP hD hS => ?_)
  have hP : va_P D vwCl [(h0, .inr (1, [.long 0, .ref q5, .null, .int 0, .null, .null, .null, .null, .null, .null, .int 0, .int 0, .null, .int 0])), (q5, .inr (0, [.long 0, .int 0, .int 0, .int (-1), .int 0, .int 0, .int 0, .int (-1), .int 0])), (q16, .inr (0, [.long 0, .int 0, .int 0, .int 0, .int 0, .int 0, .int 0, .int 0, .int 0]))] H := hP
  have hD : va_D A [(h0, .inr (1, [.long 0, .ref q5, .null, .int 0, .null, .null, .null, .null, .null, .null, .int 0, .int 0, .null, .int 0])), (q5, .inr (0, [.long 0, .int 0, .int 0, .int (-1), .int 0, .int 0, .int 0, .int (-1), .int 0])), (q16, .inr (0, [.long 0, .int 0, .int 0, .int 0, .int 0, .int 0, .int 0, .int 0, .int 0]))] := hD
  refine lv_dup hx hb d_B_init_19 rfl ?_
  refine cx_cv (wr := [(h0, .inr (1, [.long 0, .ref q5, .null, .int 0, .null, .null, .null, .null, .null, .null, .int 0, .int 0, .null, .int 0])), (q5, .inr (0, [.long 0, .int 0, .int 0, .int (-1), .int 0, .int 0, .int 0, .int (-1), .int 0]))]) (wN := [(h0, .inr (1, [.long 0, .ref q5, .null, .int 0, .null, .null, .null, .null, .null, .null, .int 0, .int 0, .null, .int 0])), (q5, .inr (0, [.long 0, .int 0, .int 0, .int (-1), .int 0, .int 0, .int 0, .int (-1), .int 0])), (q16, .inr (0, [.long 0, .int 0, .int 0, .int (-1), .int 0, .int 0, .int 0, .int (-1), .int 0]))]) (va_runIN (As := []) (rest := [.ref q16, .ref h0]) ⟨hx, hb, hml, hown, hw⟩ (c_D_init l G D K H.size q16 0 0 0 0 0 0 0 0 0) ⟨va_cnB 0 hw (cx_gI k_21) rfl rfl rfl (hE.1 _ kn_19) (hw _ k_2) (by decide +kernel) ⟨Nat.le_of_ble_eq_true rfl, Nat.le_of_ble_eq_true rfl⟩, rfl, hw _ k_20⟩ (cx_pre hK hP hD hS hA hE [2] rfl rfl (by decide)) rfl rfl hl.1 rfl (lv_room (Nat.le_of_ble_eq_true rfl)) d_B_init_20 ⟨Nat.le_of_ble_eq_true rfl, Nat.le_of_ble_eq_true rfl⟩) hP hD hS hA [2] [0, 1] rfl rfl (by decide) (by decide) [0, 1, 2] rfl rfl (by decide) (fun H locs hP hD hS => ?_)
  refine va_putF (D := D) (ci := 1) (v := .ref q16) (ty := .object "BuildDrawer$Drawing") (C := "BuildDrawer") (T := TB) (N := 14) hx hb hw inB tyB tyB_ok nmB hown hK hP hD hS 0 rfl rfl 2 (by decide) (hw _ k_58) (fun _ h9 => h9) rfl hin rfl (by decide +kernel) rfl rfl (Nat.le_of_ble_eq_true rfl) d_B_init_23 (fun H locs hP hD hS => ?_)
  have hP : va_P D vwCl [(h0, .inr (1, [.long 0, .ref q5, .ref q16, .int 0, .null, .null, .null, .null, .null, .null, .int 0, .int 0, .null, .int 0])), (q5, .inr (0, [.long 0, .int 0, .int 0, .int (-1), .int 0, .int 0, .int 0, .int (-1), .int 0])), (q16, .inr (0, [.long 0, .int 0, .int 0, .int (-1), .int 0, .int 0, .int 0, .int (-1), .int 0]))] H := hP
  have hD : va_D A [(h0, .inr (1, [.long 0, .ref q5, .ref q16, .int 0, .null, .null, .null, .null, .null, .null, .int 0, .int 0, .null, .int 0])), (q5, .inr (0, [.long 0, .int 0, .int 0, .int (-1), .int 0, .int 0, .int 0, .int (-1), .int 0])), (q16, .inr (0, [.long 0, .int 0, .int 0, .int (-1), .int 0, .int 0, .int 0, .int (-1), .int 0]))] := hD
  refine lv_aload_n hx hb d_B_init_26 rfl (lv_at hl 0 rfl) ?_
  refine lv_iconst (v := 0) hx hb d_B_init_27 (by decide) ?_
  refine va_put (D := D) (ci := 1) (v := .int 0) (ty := .int) (C := "BuildDrawer") (T := TB) (N := 14) hx hb hw inB tyB tyB_ok nmB hown hK hP hD hS 0 rfl rfl 3 (by decide) (hw _ k_59) (fun _ h9 => h9) rfl (by decide +kernel) rfl rfl (Nat.le_of_ble_eq_true rfl) d_B_init_28 (fun H locs hP hD hS => ?_)
  have hP : va_P D vwCl [(h0, .inr (1, [.long 0, .ref q5, .ref q16, .int 0, .null, .null, .null, .null, .null, .null, .int 0, .int 0, .null, .int 0])), (q5, .inr (0, [.long 0, .int 0, .int 0, .int (-1), .int 0, .int 0, .int 0, .int (-1), .int 0])), (q16, .inr (0, [.long 0, .int 0, .int 0, .int (-1), .int 0, .int 0, .int 0, .int (-1), .int 0]))] H := hP
  have hD : va_D A [(h0, .inr (1, [.long 0, .ref q5, .ref q16, .int 0, .null, .null, .null, .null, .null, .null, .int 0, .int 0, .null, .int 0])), (q5, .inr (0, [.long 0, .int 0, .int 0, .int (-1), .int 0, .int 0, .int 0, .int (-1), .int 0])), (q16, .inr (0, [.long 0, .int 0, .int 0, .int (-1), .int 0, .int 0, .int 0, .int (-1), .int 0]))] := hD
  refine lv_aload_n hx hb d_B_init_31 rfl (lv_at hl 0 rfl) ?_
  refine lv_bipush (v := 62) hx hb d_B_init_32 (by decide) ?_
  refine cx_newa (atype := .int) (ty := .int) (a0 := (62, .inl (fun _ => 0))) hx hb (hw _ k_99) rfl (fun _ h => h) hK 0 rfl hP hD hS hA (fun _ => rfl) (n := 62) (N9 := 62) (by decide) (by decide) (by decide) (Nat.le_of_ble_eq_true rfl) (Nat.le_of_ble_eq_true rfl) d_B_init_34 (fun q34 H hP hD hS => ?_)
  have hP : va_P D vwCl [(h0, .inr (1, [.long 0, .ref q5, .ref q16, .int 0, .null, .null, .null, .null, .null, .null, .int 0, .int 0, .null, .int 0])), (q5, .inr (0, [.long 0, .int 0, .int 0, .int (-1), .int 0, .int 0, .int 0, .int (-1), .int 0])), (q16, .inr (0, [.long 0, .int 0, .int 0, .int (-1), .int 0, .int 0, .int 0, .int (-1), .int 0])), (q34, .inl (K.1, 62, .inl (fun _ => 0)))] H := hP
  have hD : va_D A [(h0, .inr (1, [.long 0, .ref q5, .ref q16, .int 0, .null, .null, .null, .null, .null, .null, .int 0, .int 0, .null, .int 0])), (q5, .inr (0, [.long 0, .int 0, .int 0, .int (-1), .int 0, .int 0, .int 0, .int (-1), .int 0])), (q16, .inr (0, [.long 0, .int 0, .int 0, .int (-1), .int 0, .int 0, .int 0, .int (-1), .int 0])), (q34, .inl (K.1, 62, .inl (fun _ => 0)))] := hD
  refine va_putF (D := D) (ci := 1) (v := .ref q34) (ty := .array .int) (C := "BuildDrawer") (T := TB) (N := 14) hx hb hw inB tyB tyB_ok nmB hown hK hP hD hS 0 rfl rfl 4 (by decide) (hw _ k_60) (fun _ h9 => h9) rfl hin rfl (by decide +kernel) rfl rfl (Nat.le_of_ble_eq_true rfl) d_B_init_36 (fun H locs hP hD hS => ?_)
  have hP : va_P D vwCl [(h0, .inr (1, [.long 0, .ref q5, .ref q16, .int 0, .ref q34, .null, .null, .null, .null, .null, .int 0, .int 0, .null, .int 0])), (q5, .inr (0, [.long 0, .int 0, .int 0, .int (-1), .int 0, .int 0, .int 0, .int (-1), .int 0])), (q16, .inr (0, [.long 0, .int 0, .int 0, .int (-1), .int 0, .int 0, .int 0, .int (-1), .int 0])), (q34, .inl (K.1, 62, .inl (fun _ => 0)))] H := hP
  have hD : va_D A [(h0, .inr (1, [.long 0, .ref q5, .ref q16, .int 0, .ref q34, .null, .null, .null, .null, .null, .int 0, .int 0, .null, .int 0])), (q5, .inr (0, [.long 0, .int 0, .int 0, .int (-1), .int 0, .int 0, .int 0, .int (-1), .int 0])), (q16, .inr (0, [.long 0, .int 0, .int 0, .int (-1), .int 0, .int 0, .int 0, .int (-1), .int 0])), (q34, .inl (K.1, 62, .inl (fun _ => 0)))] := hD
  refine lv_aload_n hx hb d_B_init_39 rfl (lv_at hl 0 rfl) ?_
  refine lv_bipush (v := 62) hx hb d_B_init_40 (by decide) ?_
  refine cx_newa (atype := .int) (ty := .int) (a0 := (62, .inl (fun _ => 0))) hx hb (hw _ k_99) rfl (fun _ h => h) hK 0 rfl hP hD hS hA (fun _ => rfl) (n := 62) (N9 := 62) (by decide) (by decide) (by decide) (Nat.le_of_ble_eq_true rfl) (Nat.le_of_ble_eq_true rfl) d_B_init_42 (fun q42 H hP hD hS => ?_)
  have hP : va_P D vwCl [(h0, .inr (1, [.long 0, .ref q5, .ref q16, .int 0, .ref q34, .null, .null, .null, .null, .null, .int 0, .int 0, .null, .int 0])), (q5, .inr (0, [.long 0, .int 0, .int 0, .int (-1), .int 0, .int 0, .int 0, .int (-1), .int 0])), (q16, .inr (0, [.long 0, .int 0, .int 0, .int (-1), .int 0, .int 0, .int 0, .int (-1), .int 0])), (q34, .inl (K.1, 62, .inl (fun _ => 0))), (q42, .inl (K.1, 62, .inl (fun _ => 0)))] H := hP
  have hD : va_D A [(h0, .inr (1, [.long 0, .ref q5, .ref q16, .int 0, .ref q34, .null, .null, .null, .null, .null, .int 0, .int 0, .null, .int 0])), (q5, .inr (0, [.long 0, .int 0, .int 0, .int (-1), .int 0, .int 0, .int 0, .int (-1), .int 0])), (q16, .inr (0, [.long 0, .int 0, .int 0, .int (-1), .int 0, .int 0, .int 0, .int (-1), .int 0])), (q34, .inl (K.1, 62, .inl (fun _ => 0))), (q42, .inl (K.1, 62, .inl (fun _ => 0)))] := hD
  refine va_putF (D := D) (ci := 1) (v := .ref q42) (ty := .array .int) (C := "BuildDrawer") (T := TB) (N := 14) hx hb hw inB tyB tyB_ok nmB hown hK hP hD hS 0 rfl rfl 5 (by decide) (hw _ k_61) (fun _ h9 => h9) rfl hin rfl (by decide +kernel) rfl rfl (Nat.le_of_ble_eq_true rfl) d_B_init_44 (fun H locs hP hD hS => ?_)
  have hP : va_P D vwCl [(h0, .inr (1, [.long 0, .ref q5, .ref q16, .int 0, .ref q34, .ref q42, .null, .null, .null, .null, .int 0, .int 0, .null, .int 0])), (q5, .inr (0, [.long 0, .int 0, .int 0, .int (-1), .int 0, .int 0, .int 0, .int (-1), .int 0])), (q16, .inr (0, [.long 0, .int 0, .int 0, .int (-1), .int 0, .int 0, .int 0, .int (-1), .int 0])), (q34, .inl (K.1, 62, .inl (fun _ => 0))), (q42, .inl (K.1, 62, .inl (fun _ => 0)))] H := hP
  have hD : va_D A [(h0, .inr (1, [.long 0, .ref q5, .ref q16, .int 0, .ref q34, .ref q42, .null, .null, .null, .null, .int 0, .int 0, .null, .int 0])), (q5, .inr (0, [.long 0, .int 0, .int 0, .int (-1), .int 0, .int 0, .int 0, .int (-1), .int 0])), (q16, .inr (0, [.long 0, .int 0, .int 0, .int (-1), .int 0, .int 0, .int 0, .int (-1), .int 0])), (q34, .inl (K.1, 62, .inl (fun _ => 0))), (q42, .inl (K.1, 62, .inl (fun _ => 0)))] := hD
  refine lv_aload_n hx hb d_B_init_47 rfl (lv_at hl 0 rfl) ?_
  refine lv_bipush (v := 62) hx hb d_B_init_48 (by decide) ?_
  refine cx_newa (atype := .int) (ty := .int) (a0 := (62, .inl (fun _ => 0))) hx hb (hw _ k_99) rfl (fun _ h => h) hK 0 rfl hP hD hS hA (fun _ => rfl) (n := 62) (N9 := 62) (by decide) (by decide) (by decide) (Nat.le_of_ble_eq_true rfl) (Nat.le_of_ble_eq_true rfl) d_B_init_50 (fun q50 H hP hD hS => ?_)
  have hP : va_P D vwCl [(h0, .inr (1, [.long 0, .ref q5, .ref q16, .int 0, .ref q34, .ref q42, .null, .null, .null, .null, .int 0, .int 0, .null, .int 0])), (q5, .inr (0, [.long 0, .int 0, .int 0, .int (-1), .int 0, .int 0, .int 0, .int (-1), .int 0])), (q16, .inr (0, [.long 0, .int 0, .int 0, .int (-1), .int 0, .int 0, .int 0, .int (-1), .int 0])), (q34, .inl (K.1, 62, .inl (fun _ => 0))), (q42, .inl (K.1, 62, .inl (fun _ => 0))), (q50, .inl (K.1, 62, .inl (fun _ => 0)))] H := hP
  have hD : va_D A [(h0, .inr (1, [.long 0, .ref q5, .ref q16, .int 0, .ref q34, .ref q42, .null, .null, .null, .null, .int 0, .int 0, .null, .int 0])), (q5, .inr (0, [.long 0, .int 0, .int 0, .int (-1), .int 0, .int 0, .int 0, .int (-1), .int 0])), (q16, .inr (0, [.long 0, .int 0, .int 0, .int (-1), .int 0, .int 0, .int 0, .int (-1), .int 0])), (q34, .inl (K.1, 62, .inl (fun _ => 0))), (q42, .inl (K.1, 62, .inl (fun _ => 0))), (q50, .inl (K.1, 62, .inl (fun _ => 0)))] := hD
  refine va_putF (D := D) (ci := 1) (v := .ref q50) (ty := .array .int) (C := "BuildDrawer") (T := TB) (N := 14) hx hb hw inB tyB tyB_ok nmB hown hK hP hD hS 0 rfl rfl 6 (by decide) (hw _ k_62) (fun _ h9 => h9) rfl hin rfl (by decide +kernel) rfl rfl (Nat.le_of_ble_eq_true rfl) d_B_init_52 (fun H locs hP hD hS => ?_)
  have hP : va_P D vwCl [(h0, .inr (1, [.long 0, .ref q5, .ref q16, .int 0, .ref q34, .ref q42, .ref q50, .null, .null, .null, .int 0, .int 0, .null, .int 0])), (q5, .inr (0, [.long 0, .int 0, .int 0, .int (-1), .int 0, .int 0, .int 0, .int (-1), .int 0])), (q16, .inr (0, [.long 0, .int 0, .int 0, .int (-1), .int 0, .int 0, .int 0, .int (-1), .int 0])), (q34, .inl (K.1, 62, .inl (fun _ => 0))), (q42, .inl (K.1, 62, .inl (fun _ => 0))), (q50, .inl (K.1, 62, .inl (fun _ => 0)))] H := hP
  have hD : va_D A [(h0, .inr (1, [.long 0, .ref q5, .ref q16, .int 0, .ref q34, .ref q42, .ref q50, .null, .null, .null, .int 0, .int 0, .null, .int 0])), (q5, .inr (0, [.long 0, .int 0, .int 0, .int (-1), .int 0, .int 0, .int 0, .int (-1), .int 0])), (q16, .inr (0, [.long 0, .int 0, .int 0, .int (-1), .int 0, .int 0, .int 0, .int (-1), .int 0])), (q34, .inl (K.1, 62, .inl (fun _ => 0))), (q42, .inl (K.1, 62, .inl (fun _ => 0))), (q50, .inl (K.1, 62, .inl (fun _ => 0)))] := hD
  refine lv_aload_n hx hb d_B_init_55 rfl (lv_at hl 0 rfl) ?_
  refine lv_bipush (v := 62) hx hb d_B_init_56 (by decide) ?_
  refine cx_newa (atype := .int) (ty := .int) (a0 := (62, .inl (fun _ => 0))) hx hb (hw _ k_99) rfl (fun _ h => h) hK 0 rfl hP hD hS hA (fun _ => rfl) (n := 62) (N9 := 62) (by decide) (by decide) (by decide) (Nat.le_of_ble_eq_true rfl) (Nat.le_of_ble_eq_true rfl) d_B_init_58 (fun q58 H hP hD hS => ?_)
  have hP : va_P D vwCl [(h0, .inr (1, [.long 0, .ref q5, .ref q16, .int 0, .ref q34, .ref q42, .ref q50, .null, .null, .null, .int 0, .int 0, .null, .int 0])), (q5, .inr (0, [.long 0, .int 0, .int 0, .int (-1), .int 0, .int 0, .int 0, .int (-1), .int 0])), (q16, .inr (0, [.long 0, .int 0, .int 0, .int (-1), .int 0, .int 0, .int 0, .int (-1), .int 0])), (q34, .inl (K.1, 62, .inl (fun _ => 0))), (q42, .inl (K.1, 62, .inl (fun _ => 0))), (q50, .inl (K.1, 62, .inl (fun _ => 0))), (q58, .inl (K.1, 62, .inl (fun _ => 0)))] H := hP
  have hD : va_D A [(h0, .inr (1, [.long 0, .ref q5, .ref q16, .int 0, .ref q34, .ref q42, .ref q50, .null, .null, .null, .int 0, .int 0, .null, .int 0])), (q5, .inr (0, [.long 0, .int 0, .int 0, .int (-1), .int 0, .int 0, .int 0, .int (-1), .int 0])), (q16, .inr (0, [.long 0, .int 0, .int 0, .int (-1), .int 0, .int 0, .int 0, .int (-1), .int 0])), (q34, .inl (K.1, 62, .inl (fun _ => 0))), (q42, .inl (K.1, 62, .inl (fun _ => 0))), (q50, .inl (K.1, 62, .inl (fun _ => 0))), (q58, .inl (K.1, 62, .inl (fun _ => 0)))] := hD
  refine va_putF (D := D) (ci := 1) (v := .ref q58) (ty := .array .int) (C := "BuildDrawer") (T := TB) (N := 14) hx hb hw inB tyB tyB_ok nmB hown hK hP hD hS 0 rfl rfl 7 (by decide) (hw _ k_63) (fun _ h9 => h9) rfl hin rfl (by decide +kernel) rfl rfl (Nat.le_of_ble_eq_true rfl) d_B_init_60 (fun H locs hP hD hS => ?_)
  have hP : va_P D vwCl [(h0, .inr (1, [.long 0, .ref q5, .ref q16, .int 0, .ref q34, .ref q42, .ref q50, .ref q58, .null, .null, .int 0, .int 0, .null, .int 0])), (q5, .inr (0, [.long 0, .int 0, .int 0, .int (-1), .int 0, .int 0, .int 0, .int (-1), .int 0])), (q16, .inr (0, [.long 0, .int 0, .int 0, .int (-1), .int 0, .int 0, .int 0, .int (-1), .int 0])), (q34, .inl (K.1, 62, .inl (fun _ => 0))), (q42, .inl (K.1, 62, .inl (fun _ => 0))), (q50, .inl (K.1, 62, .inl (fun _ => 0))), (q58, .inl (K.1, 62, .inl (fun _ => 0)))] H := hP
  have hD : va_D A [(h0, .inr (1, [.long 0, .ref q5, .ref q16, .int 0, .ref q34, .ref q42, .ref q50, .ref q58, .null, .null, .int 0, .int 0, .null, .int 0])), (q5, .inr (0, [.long 0, .int 0, .int 0, .int (-1), .int 0, .int 0, .int 0, .int (-1), .int 0])), (q16, .inr (0, [.long 0, .int 0, .int 0, .int (-1), .int 0, .int 0, .int 0, .int (-1), .int 0])), (q34, .inl (K.1, 62, .inl (fun _ => 0))), (q42, .inl (K.1, 62, .inl (fun _ => 0))), (q50, .inl (K.1, 62, .inl (fun _ => 0))), (q58, .inl (K.1, 62, .inl (fun _ => 0)))] := hD
  refine lv_aload_n hx hb d_B_init_63 rfl (lv_at hl 0 rfl) ?_
  refine lv_bipush (v := 62) hx hb d_B_init_64 (by decide) ?_
  refine cx_newa (atype := .int) (ty := .int) (a0 := (62, .inl (fun _ => 0))) hx hb (hw _ k_99) rfl (fun _ h => h) hK 0 rfl hP hD hS hA (fun _ => rfl) (n := 62) (N9 := 62) (by decide) (by decide) (by decide) (Nat.le_of_ble_eq_true rfl) (Nat.le_of_ble_eq_true rfl) d_B_init_66 (fun q66 H hP hD hS => ?_)
  have hP : va_P D vwCl [(h0, .inr (1, [.long 0, .ref q5, .ref q16, .int 0, .ref q34, .ref q42, .ref q50, .ref q58, .null, .null, .int 0, .int 0, .null, .int 0])), (q5, .inr (0, [.long 0, .int 0, .int 0, .int (-1), .int 0, .int 0, .int 0, .int (-1), .int 0])), (q16, .inr (0, [.long 0, .int 0, .int 0, .int (-1), .int 0, .int 0, .int 0, .int (-1), .int 0])), (q34, .inl (K.1, 62, .inl (fun _ => 0))), (q42, .inl (K.1, 62, .inl (fun _ => 0))), (q50, .inl (K.1, 62, .inl (fun _ => 0))), (q58, .inl (K.1, 62, .inl (fun _ => 0))), (q66, .inl (K.1, 62, .inl (fun _ => 0)))] H := hP
  have hD : va_D A [(h0, .inr (1, [.long 0, .ref q5, .ref q16, .int 0, .ref q34, .ref q42, .ref q50, .ref q58, .null, .null, .int 0, .int 0, .null, .int 0])), (q5, .inr (0, [.long 0, .int 0, .int 0, .int (-1), .int 0, .int 0, .int 0, .int (-1), .int 0])), (q16, .inr (0, [.long 0, .int 0, .int 0, .int (-1), .int 0, .int 0, .int 0, .int (-1), .int 0])), (q34, .inl (K.1, 62, .inl (fun _ => 0))), (q42, .inl (K.1, 62, .inl (fun _ => 0))), (q50, .inl (K.1, 62, .inl (fun _ => 0))), (q58, .inl (K.1, 62, .inl (fun _ => 0))), (q66, .inl (K.1, 62, .inl (fun _ => 0)))] := hD
  refine va_putF (D := D) (ci := 1) (v := .ref q66) (ty := .array .int) (C := "BuildDrawer") (T := TB) (N := 14) hx hb hw inB tyB tyB_ok nmB hown hK hP hD hS 0 rfl rfl 8 (by decide) (hw _ k_64) (fun _ h9 => h9) rfl hin rfl (by decide +kernel) rfl rfl (Nat.le_of_ble_eq_true rfl) d_B_init_68 (fun H locs hP hD hS => ?_)
  have hP : va_P D vwCl [(h0, .inr (1, [.long 0, .ref q5, .ref q16, .int 0, .ref q34, .ref q42, .ref q50, .ref q58, .ref q66, .null, .int 0, .int 0, .null, .int 0])), (q5, .inr (0, [.long 0, .int 0, .int 0, .int (-1), .int 0, .int 0, .int 0, .int (-1), .int 0])), (q16, .inr (0, [.long 0, .int 0, .int 0, .int (-1), .int 0, .int 0, .int 0, .int (-1), .int 0])), (q34, .inl (K.1, 62, .inl (fun _ => 0))), (q42, .inl (K.1, 62, .inl (fun _ => 0))), (q50, .inl (K.1, 62, .inl (fun _ => 0))), (q58, .inl (K.1, 62, .inl (fun _ => 0))), (q66, .inl (K.1, 62, .inl (fun _ => 0)))] H := hP
  have hD : va_D A [(h0, .inr (1, [.long 0, .ref q5, .ref q16, .int 0, .ref q34, .ref q42, .ref q50, .ref q58, .ref q66, .null, .int 0, .int 0, .null, .int 0])), (q5, .inr (0, [.long 0, .int 0, .int 0, .int (-1), .int 0, .int 0, .int 0, .int (-1), .int 0])), (q16, .inr (0, [.long 0, .int 0, .int 0, .int (-1), .int 0, .int 0, .int 0, .int (-1), .int 0])), (q34, .inl (K.1, 62, .inl (fun _ => 0))), (q42, .inl (K.1, 62, .inl (fun _ => 0))), (q50, .inl (K.1, 62, .inl (fun _ => 0))), (q58, .inl (K.1, 62, .inl (fun _ => 0))), (q66, .inl (K.1, 62, .inl (fun _ => 0)))] := hD
  refine lv_aload_n hx hb d_B_init_71 rfl (lv_at hl 0 rfl) ?_
  refine lv_bipush (v := 62) hx hb d_B_init_72 (by decide) ?_
  refine cx_newa (atype := .boolean) (ty := .boolean) (a0 := (62, .inl (fun _ => 0))) hx hb (hw _ k_100) rfl (fun _ h => h) hK 1 rfl hP hD hS hA (fun _ => rfl) (n := 62) (N9 := 62) (by decide) (by decide) (by decide) (Nat.le_of_ble_eq_true rfl) (Nat.le_of_ble_eq_true rfl) d_B_init_74 (fun q74 H hP hD hS => ?_)
  have hP : va_P D vwCl [(h0, .inr (1, [.long 0, .ref q5, .ref q16, .int 0, .ref q34, .ref q42, .ref q50, .ref q58, .ref q66, .null, .int 0, .int 0, .null, .int 0])), (q5, .inr (0, [.long 0, .int 0, .int 0, .int (-1), .int 0, .int 0, .int 0, .int (-1), .int 0])), (q16, .inr (0, [.long 0, .int 0, .int 0, .int (-1), .int 0, .int 0, .int 0, .int (-1), .int 0])), (q34, .inl (K.1, 62, .inl (fun _ => 0))), (q42, .inl (K.1, 62, .inl (fun _ => 0))), (q50, .inl (K.1, 62, .inl (fun _ => 0))), (q58, .inl (K.1, 62, .inl (fun _ => 0))), (q66, .inl (K.1, 62, .inl (fun _ => 0))), (q74, .inl (K.2.1, 62, .inl (fun _ => 0)))] H := hP
  have hD : va_D A [(h0, .inr (1, [.long 0, .ref q5, .ref q16, .int 0, .ref q34, .ref q42, .ref q50, .ref q58, .ref q66, .null, .int 0, .int 0, .null, .int 0])), (q5, .inr (0, [.long 0, .int 0, .int 0, .int (-1), .int 0, .int 0, .int 0, .int (-1), .int 0])), (q16, .inr (0, [.long 0, .int 0, .int 0, .int (-1), .int 0, .int 0, .int 0, .int (-1), .int 0])), (q34, .inl (K.1, 62, .inl (fun _ => 0))), (q42, .inl (K.1, 62, .inl (fun _ => 0))), (q50, .inl (K.1, 62, .inl (fun _ => 0))), (q58, .inl (K.1, 62, .inl (fun _ => 0))), (q66, .inl (K.1, 62, .inl (fun _ => 0))), (q74, .inl (K.2.1, 62, .inl (fun _ => 0)))] := hD
  refine va_putF (D := D) (ci := 1) (v := .ref q74) (ty := .array .boolean) (C := "BuildDrawer") (T := TB) (N := 14) hx hb hw inB tyB tyB_ok nmB hown hK hP hD hS 0 rfl rfl 9 (by decide) (hw _ k_65) (fun _ h9 => h9) rfl hin rfl (by decide +kernel) rfl rfl (Nat.le_of_ble_eq_true rfl) d_B_init_76 (fun H locs hP hD hS => ?_)
  have hP : va_P D vwCl [(h0, .inr (1, [.long 0, .ref q5, .ref q16, .int 0, .ref q34, .ref q42, .ref q50, .ref q58, .ref q66, .ref q74, .int 0, .int 0, .null, .int 0])), (q5, .inr (0, [.long 0, .int 0, .int 0, .int (-1), .int 0, .int 0, .int 0, .int (-1), .int 0])), (q16, .inr (0, [.long 0, .int 0, .int 0, .int (-1), .int 0, .int 0, .int 0, .int (-1), .int 0])), (q34, .inl (K.1, 62, .inl (fun _ => 0))), (q42, .inl (K.1, 62, .inl (fun _ => 0))), (q50, .inl (K.1, 62, .inl (fun _ => 0))), (q58, .inl (K.1, 62, .inl (fun _ => 0))), (q66, .inl (K.1, 62, .inl (fun _ => 0))), (q74, .inl (K.2.1, 62, .inl (fun _ => 0)))] H := hP
  have hD : va_D A [(h0, .inr (1, [.long 0, .ref q5, .ref q16, .int 0, .ref q34, .ref q42, .ref q50, .ref q58, .ref q66, .ref q74, .int 0, .int 0, .null, .int 0])), (q5, .inr (0, [.long 0, .int 0, .int 0, .int (-1), .int 0, .int 0, .int 0, .int (-1), .int 0])), (q16, .inr (0, [.long 0, .int 0, .int 0, .int (-1), .int 0, .int 0, .int 0, .int (-1), .int 0])), (q34, .inl (K.1, 62, .inl (fun _ => 0))), (q42, .inl (K.1, 62, .inl (fun _ => 0))), (q50, .inl (K.1, 62, .inl (fun _ => 0))), (q58, .inl (K.1, 62, .inl (fun _ => 0))), (q66, .inl (K.1, 62, .inl (fun _ => 0))), (q74, .inl (K.2.1, 62, .inl (fun _ => 0)))] := hD
  refine lv_aload_n hx hb d_B_init_79 rfl (lv_at hl 0 rfl) ?_
  refine lv_iconst (v := 0) hx hb d_B_init_80 (by decide) ?_
  refine va_put (D := D) (ci := 1) (v := .int 0) (ty := .int) (C := "BuildDrawer") (T := TB) (N := 14) hx hb hw inB tyB tyB_ok nmB hown hK hP hD hS 0 rfl rfl 10 (by decide) (hw _ k_66) (fun _ h9 => h9) rfl (by decide +kernel) rfl rfl (Nat.le_of_ble_eq_true rfl) d_B_init_81 (fun H locs hP hD hS => ?_)
  have hP : va_P D vwCl [(h0, .inr (1, [.long 0, .ref q5, .ref q16, .int 0, .ref q34, .ref q42, .ref q50, .ref q58, .ref q66, .ref q74, .int 0, .int 0, .null, .int 0])), (q5, .inr (0, [.long 0, .int 0, .int 0, .int (-1), .int 0, .int 0, .int 0, .int (-1), .int 0])), (q16, .inr (0, [.long 0, .int 0, .int 0, .int (-1), .int 0, .int 0, .int 0, .int (-1), .int 0])), (q34, .inl (K.1, 62, .inl (fun _ => 0))), (q42, .inl (K.1, 62, .inl (fun _ => 0))), (q50, .inl (K.1, 62, .inl (fun _ => 0))), (q58, .inl (K.1, 62, .inl (fun _ => 0))), (q66, .inl (K.1, 62, .inl (fun _ => 0))), (q74, .inl (K.2.1, 62, .inl (fun _ => 0)))] H := hP
  have hD : va_D A [(h0, .inr (1, [.long 0, .ref q5, .ref q16, .int 0, .ref q34, .ref q42, .ref q50, .ref q58, .ref q66, .ref q74, .int 0, .int 0, .null, .int 0])), (q5, .inr (0, [.long 0, .int 0, .int 0, .int (-1), .int 0, .int 0, .int 0, .int (-1), .int 0])), (q16, .inr (0, [.long 0, .int 0, .int 0, .int (-1), .int 0, .int 0, .int 0, .int (-1), .int 0])), (q34, .inl (K.1, 62, .inl (fun _ => 0))), (q42, .inl (K.1, 62, .inl (fun _ => 0))), (q50, .inl (K.1, 62, .inl (fun _ => 0))), (q58, .inl (K.1, 62, .inl (fun _ => 0))), (q66, .inl (K.1, 62, .inl (fun _ => 0))), (q74, .inl (K.2.1, 62, .inl (fun _ => 0)))] := hD
  refine lv_aload_n hx hb d_B_init_84 rfl (lv_at hl 0 rfl) ?_
  refine lv_iconst (v := 1) hx hb d_B_init_85 (by decide) ?_
  refine va_put (D := D) (ci := 1) (v := .int 1) (ty := .boolean) (C := "BuildDrawer") (T := TB) (N := 14) hx hb hw inB tyB tyB_ok nmB hown hK hP hD hS 0 rfl rfl 11 (by decide) (hw _ k_67) (fun _ h9 => h9) rfl (by decide +kernel) rfl rfl (Nat.le_of_ble_eq_true rfl) d_B_init_86 (fun H locs hP hD hS => ?_)
  have hP : va_P D vwCl [(h0, .inr (1, [.long 0, .ref q5, .ref q16, .int 0, .ref q34, .ref q42, .ref q50, .ref q58, .ref q66, .ref q74, .int 0, .int 1, .null, .int 0])), (q5, .inr (0, [.long 0, .int 0, .int 0, .int (-1), .int 0, .int 0, .int 0, .int (-1), .int 0])), (q16, .inr (0, [.long 0, .int 0, .int 0, .int (-1), .int 0, .int 0, .int 0, .int (-1), .int 0])), (q34, .inl (K.1, 62, .inl (fun _ => 0))), (q42, .inl (K.1, 62, .inl (fun _ => 0))), (q50, .inl (K.1, 62, .inl (fun _ => 0))), (q58, .inl (K.1, 62, .inl (fun _ => 0))), (q66, .inl (K.1, 62, .inl (fun _ => 0))), (q74, .inl (K.2.1, 62, .inl (fun _ => 0)))] H := hP
  have hD : va_D A [(h0, .inr (1, [.long 0, .ref q5, .ref q16, .int 0, .ref q34, .ref q42, .ref q50, .ref q58, .ref q66, .ref q74, .int 0, .int 1, .null, .int 0])), (q5, .inr (0, [.long 0, .int 0, .int 0, .int (-1), .int 0, .int 0, .int 0, .int (-1), .int 0])), (q16, .inr (0, [.long 0, .int 0, .int 0, .int (-1), .int 0, .int 0, .int 0, .int (-1), .int 0])), (q34, .inl (K.1, 62, .inl (fun _ => 0))), (q42, .inl (K.1, 62, .inl (fun _ => 0))), (q50, .inl (K.1, 62, .inl (fun _ => 0))), (q58, .inl (K.1, 62, .inl (fun _ => 0))), (q66, .inl (K.1, 62, .inl (fun _ => 0))), (q74, .inl (K.2.1, 62, .inl (fun _ => 0)))] := hD
  refine lv_aload_n hx hb d_B_init_89 rfl (lv_at hl 0 rfl) ?_
  refine lv_sipush (v := 992) hx hb d_B_init_90 (by decide) ?_
  refine cx_newa (atype := .char) (ty := .char) (a0 := (992, .inl (fun _ => 0))) hx hb (hw _ k_101) rfl (fun _ h => h) hK 2 rfl hP hD hS hA (fun _ => rfl) (n := 992) (N9 := 992) (by decide) (by decide) (by decide) (Nat.le_of_ble_eq_true rfl) (Nat.le_of_ble_eq_true rfl) d_B_init_93 (fun q93 H hP hD hS => ?_)
  have hP : va_P D vwCl [(h0, .inr (1, [.long 0, .ref q5, .ref q16, .int 0, .ref q34, .ref q42, .ref q50, .ref q58, .ref q66, .ref q74, .int 0, .int 1, .null, .int 0])), (q5, .inr (0, [.long 0, .int 0, .int 0, .int (-1), .int 0, .int 0, .int 0, .int (-1), .int 0])), (q16, .inr (0, [.long 0, .int 0, .int 0, .int (-1), .int 0, .int 0, .int 0, .int (-1), .int 0])), (q34, .inl (K.1, 62, .inl (fun _ => 0))), (q42, .inl (K.1, 62, .inl (fun _ => 0))), (q50, .inl (K.1, 62, .inl (fun _ => 0))), (q58, .inl (K.1, 62, .inl (fun _ => 0))), (q66, .inl (K.1, 62, .inl (fun _ => 0))), (q74, .inl (K.2.1, 62, .inl (fun _ => 0))), (q93, .inl (K.2.2, 992, .inl (fun _ => 0)))] H := hP
  have hD : va_D A [(h0, .inr (1, [.long 0, .ref q5, .ref q16, .int 0, .ref q34, .ref q42, .ref q50, .ref q58, .ref q66, .ref q74, .int 0, .int 1, .null, .int 0])), (q5, .inr (0, [.long 0, .int 0, .int 0, .int (-1), .int 0, .int 0, .int 0, .int (-1), .int 0])), (q16, .inr (0, [.long 0, .int 0, .int 0, .int (-1), .int 0, .int 0, .int 0, .int (-1), .int 0])), (q34, .inl (K.1, 62, .inl (fun _ => 0))), (q42, .inl (K.1, 62, .inl (fun _ => 0))), (q50, .inl (K.1, 62, .inl (fun _ => 0))), (q58, .inl (K.1, 62, .inl (fun _ => 0))), (q66, .inl (K.1, 62, .inl (fun _ => 0))), (q74, .inl (K.2.1, 62, .inl (fun _ => 0))), (q93, .inl (K.2.2, 992, .inl (fun _ => 0)))] := hD
  refine va_putF (D := D) (ci := 1) (v := .ref q93) (ty := .array .char) (C := "BuildDrawer") (T := TB) (N := 14) hx hb hw inB tyB tyB_ok nmB hown hK hP hD hS 0 rfl rfl 12 (by decide) (hw _ k_68) (fun _ h9 => h9) rfl hin rfl (by decide +kernel) rfl rfl (Nat.le_of_ble_eq_true rfl) d_B_init_95 (fun H locs hP hD hS => ?_)
  have hP : va_P D vwCl [(h0, .inr (1, [.long 0, .ref q5, .ref q16, .int 0, .ref q34, .ref q42, .ref q50, .ref q58, .ref q66, .ref q74, .int 0, .int 1, .ref q93, .int 0])), (q5, .inr (0, [.long 0, .int 0, .int 0, .int (-1), .int 0, .int 0, .int 0, .int (-1), .int 0])), (q16, .inr (0, [.long 0, .int 0, .int 0, .int (-1), .int 0, .int 0, .int 0, .int (-1), .int 0])), (q34, .inl (K.1, 62, .inl (fun _ => 0))), (q42, .inl (K.1, 62, .inl (fun _ => 0))), (q50, .inl (K.1, 62, .inl (fun _ => 0))), (q58, .inl (K.1, 62, .inl (fun _ => 0))), (q66, .inl (K.1, 62, .inl (fun _ => 0))), (q74, .inl (K.2.1, 62, .inl (fun _ => 0))), (q93, .inl (K.2.2, 992, .inl (fun _ => 0)))] H := hP
  have hD : va_D A [(h0, .inr (1, [.long 0, .ref q5, .ref q16, .int 0, .ref q34, .ref q42, .ref q50, .ref q58, .ref q66, .ref q74, .int 0, .int 1, .ref q93, .int 0])), (q5, .inr (0, [.long 0, .int 0, .int 0, .int (-1), .int 0, .int 0, .int 0, .int (-1), .int 0])), (q16, .inr (0, [.long 0, .int 0, .int 0, .int (-1), .int 0, .int 0, .int 0, .int (-1), .int 0])), (q34, .inl (K.1, 62, .inl (fun _ => 0))), (q42, .inl (K.1, 62, .inl (fun _ => 0))), (q50, .inl (K.1, 62, .inl (fun _ => 0))), (q58, .inl (K.1, 62, .inl (fun _ => 0))), (q66, .inl (K.1, 62, .inl (fun _ => 0))), (q74, .inl (K.2.1, 62, .inl (fun _ => 0))), (q93, .inl (K.2.2, 992, .inl (fun _ => 0)))] := hD
  refine lv_aload_n hx hb d_B_init_98 rfl (lv_at hl 0 rfl) ?_
  refine lv_iconst (v := (-1)) hx hb d_B_init_99 (by decide) ?_
  refine va_put (D := D) (ci := 1) (v := .int (-1)) (ty := .int) (C := "BuildDrawer") (T := TB) (N := 14) hx hb hw inB tyB tyB_ok nmB hown hK hP hD hS 0 rfl rfl 13 (by decide) (hw _ k_69) (fun _ h9 => h9) rfl (by decide +kernel) rfl rfl (Nat.le_of_ble_eq_true rfl) d_B_init_100 (fun H locs hP hD hS => ?_)
  have hP : va_P D vwCl [(h0, .inr (1, [.long 0, .ref q5, .ref q16, .int 0, .ref q34, .ref q42, .ref q50, .ref q58, .ref q66, .ref q74, .int 0, .int 1, .ref q93, .int (-1)])), (q5, .inr (0, [.long 0, .int 0, .int 0, .int (-1), .int 0, .int 0, .int 0, .int (-1), .int 0])), (q16, .inr (0, [.long 0, .int 0, .int 0, .int (-1), .int 0, .int 0, .int 0, .int (-1), .int 0])), (q34, .inl (K.1, 62, .inl (fun _ => 0))), (q42, .inl (K.1, 62, .inl (fun _ => 0))), (q50, .inl (K.1, 62, .inl (fun _ => 0))), (q58, .inl (K.1, 62, .inl (fun _ => 0))), (q66, .inl (K.1, 62, .inl (fun _ => 0))), (q74, .inl (K.2.1, 62, .inl (fun _ => 0))), (q93, .inl (K.2.2, 992, .inl (fun _ => 0)))] H := hP
  have hD : va_D A [(h0, .inr (1, [.long 0, .ref q5, .ref q16, .int 0, .ref q34, .ref q42, .ref q50, .ref q58, .ref q66, .ref q74, .int 0, .int 1, .ref q93, .int (-1)])), (q5, .inr (0, [.long 0, .int 0, .int 0, .int (-1), .int 0, .int 0, .int 0, .int (-1), .int 0])), (q16, .inr (0, [.long 0, .int 0, .int 0, .int (-1), .int 0, .int 0, .int 0, .int (-1), .int 0])), (q34, .inl (K.1, 62, .inl (fun _ => 0))), (q42, .inl (K.1, 62, .inl (fun _ => 0))), (q50, .inl (K.1, 62, .inl (fun _ => 0))), (q58, .inl (K.1, 62, .inl (fun _ => 0))), (q66, .inl (K.1, 62, .inl (fun _ => 0))), (q74, .inl (K.2.1, 62, .inl (fun _ => 0))), (q93, .inl (K.2.2, 992, .inl (fun _ => 0)))] := hD
  refine lv_aload_n hx hb d_B_init_103 rfl (lv_at hl 0 rfl) ?_
  refine lv_lload_n hx hb d_B_init_104 rfl (lv_at hl 1 rfl) ?_
  refine va_putF (D := D) (ci := 1) (v := .long seed) (ty := .long) (C := "BuildDrawer") (T := TB) (N := 14) hx hb hw inB tyB tyB_ok nmB hown hK hP hD hS 0 rfl rfl 0 (by decide) (hw _ k_56) (fun _ h9 => h9) rfl hin rfl (by decide +kernel) rfl rfl (Nat.le_of_ble_eq_true rfl) d_B_init_105 (fun H locs hP hD hS => ?_)
  have hP : va_P D vwCl [(h0, .inr (1, [.long seed, .ref q5, .ref q16, .int 0, .ref q34, .ref q42, .ref q50, .ref q58, .ref q66, .ref q74, .int 0, .int 1, .ref q93, .int (-1)])), (q5, .inr (0, [.long 0, .int 0, .int 0, .int (-1), .int 0, .int 0, .int 0, .int (-1), .int 0])), (q16, .inr (0, [.long 0, .int 0, .int 0, .int (-1), .int 0, .int 0, .int 0, .int (-1), .int 0])), (q34, .inl (K.1, 62, .inl (fun _ => 0))), (q42, .inl (K.1, 62, .inl (fun _ => 0))), (q50, .inl (K.1, 62, .inl (fun _ => 0))), (q58, .inl (K.1, 62, .inl (fun _ => 0))), (q66, .inl (K.1, 62, .inl (fun _ => 0))), (q74, .inl (K.2.1, 62, .inl (fun _ => 0))), (q93, .inl (K.2.2, 992, .inl (fun _ => 0)))] H := hP
  have hD : va_D A [(h0, .inr (1, [.long seed, .ref q5, .ref q16, .int 0, .ref q34, .ref q42, .ref q50, .ref q58, .ref q66, .ref q74, .int 0, .int 1, .ref q93, .int (-1)])), (q5, .inr (0, [.long 0, .int 0, .int 0, .int (-1), .int 0, .int 0, .int 0, .int (-1), .int 0])), (q16, .inr (0, [.long 0, .int 0, .int 0, .int (-1), .int 0, .int 0, .int 0, .int (-1), .int 0])), (q34, .inl (K.1, 62, .inl (fun _ => 0))), (q42, .inl (K.1, 62, .inl (fun _ => 0))), (q50, .inl (K.1, 62, .inl (fun _ => 0))), (q58, .inl (K.1, 62, .inl (fun _ => 0))), (q66, .inl (K.1, 62, .inl (fun _ => 0))), (q74, .inl (K.2.1, 62, .inl (fun _ => 0))), (q93, .inl (K.2.2, 992, .inl (fun _ => 0)))] := hD
  have hP : va_P D vwCl [(h0, .inr (1, [.long seed, .ref q5, .ref q16, .int 0, .ref q34, .ref q42, .ref q50, .ref q58, .ref q66, .ref q74, .int 0, .int 1, .ref q93, .int (-1)])), (q5, .inr (0, [.long 0, .int 0, .int 0, .int (-1), .int 0, .int 0, .int 0, .int (-1), .int 0])), (q16, .inr (0, [.long 0, .int 0, .int 0, .int (-1), .int 0, .int 0, .int 0, .int (-1), .int 0])), (q34, .inl (K.1, 62, .inl (fun _ => 0))), (q42, .inl (K.1, 62, .inl (fun _ => 0))), (q50, .inl (K.1, 62, .inl (fun _ => 0))), (q58, .inl (K.1, 62, .inl (fun _ => 0))), (q66, .inl (K.1, 62, .inl (fun _ => 0))), (q74, .inl (K.2.1, 62, .inl (fun _ => 0))), (q93, .inl (K.2.2, 992, .inl (fun _ => 0)))] H := hP
  obtain ⟨hP, hD⟩ := cx_perm (wN := [(h0, .inr (1, [.long seed, .ref q5, .ref q16, .int 0, .ref q34, .ref q42, .ref q50, .ref q58, .ref q66, .ref q74, .int 0, .int 1, .ref q93, .int (-1)])), (q5, .inr (0, [.long 0, .int 0, .int 0, .int (-1), .int 0, .int 0, .int 0, .int (-1), .int 0])), (q16, .inr (0, [.long 0, .int 0, .int 0, .int (-1), .int 0, .int 0, .int 0, .int (-1), .int 0])), (q34, .inl (K.1, 62, .inl (fun _ => 0))), (q42, .inl (K.1, 62, .inl (fun _ => 0))), (q50, .inl (K.1, 62, .inl (fun _ => 0))), (q58, .inl (K.1, 62, .inl (fun _ => 0))), (q66, .inl (K.1, 62, .inl (fun _ => 0))), (q74, .inl (K.2.1, 62, .inl (fun _ => 0))), (q93, .inl (K.2.2, 992, .inl (fun _ => 0)))]) hP hD [0, 1, 2, 3, 4, 5, 6, 7, 8, 9] rfl rfl (by decide)
  exact cx_vretu hx hb hr hlocks hK hP hD hS d_B_init_108 (fun k => [q5, q16, q34, q42, q50, q58, q66, q74, q93].getD k 0) rfl
end
