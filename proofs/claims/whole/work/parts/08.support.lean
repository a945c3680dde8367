/-! the environment: what stands outside the worlds and is never written: the nest's words, the statics, the text of the letters -/
/-- the sort that a kind tells -/
def bd_sk (k : Nat) : Int32 := [0, 2, 1, 3, 4, 5, 6, 7].getD k 0
/-- the letters of the sorts -/
def bd_lt (k : Nat) : Int32 := [70, 84, 80, 82, 83, 67, 76, 86].getD k 0
def cx_isNest : Cond → Bool
  | .fieldLinkNest .. => true
  | .methodLinkNest .. => true
  | _ => false
def cx_nest : List Cond := [(Jvm.Cond.methodLinkNest "BuildDrawer" (11 : Nat) ({ cls := "BuildDrawer$Drawing", name := "<init>", desc := "()V" } : Jvm.MethodName) "BuildDrawer"),
  (Jvm.Cond.fieldLinkNest "BuildDrawer" (72 : Nat) "BuildDrawer$Drawing" "sort" "I" "BuildDrawer"),
  (Jvm.Cond.fieldLinkNest "BuildDrawer" (75 : Nat) "BuildDrawer$Drawing" "a" "I" "BuildDrawer"),
  (Jvm.Cond.fieldLinkNest "BuildDrawer" (78 : Nat) "BuildDrawer$Drawing" "b" "I" "BuildDrawer"),
  (Jvm.Cond.fieldLinkNest "BuildDrawer" (81 : Nat) "BuildDrawer$Drawing" "need" "I" "BuildDrawer"),
  (Jvm.Cond.fieldLinkNest "BuildDrawer" (84 : Nat) "BuildDrawer$Drawing" "mark" "I" "BuildDrawer"),
  (Jvm.Cond.methodLinkNest "BuildDrawer" (65 : Nat) ({ cls := "BuildDrawer$Drawing", name := "begin", desc := "(JII)V" } : Jvm.MethodName) "BuildDrawer"),
  (Jvm.Cond.fieldLinkNest "BuildDrawer$Drawing" (42 : Nat) "BuildDrawer" "SORT_OF_KIND" "[I" "BuildDrawer"),
  (Jvm.Cond.methodLinkNest "BuildDrawer" (69 : Nat) ({ cls := "BuildDrawer$Drawing", name := "next", desc := "()V" } : Jvm.MethodName) "BuildDrawer"),
  (Jvm.Cond.methodLinkNest "BuildDrawer" (126 : Nat) ({ cls := "BuildDrawer$Drawing", name := "isAtTheLikeOf", desc := "(LBuildDrawer$Drawing;)Z" } : Jvm.MethodName) "BuildDrawer")]
theorem cx_nest_all : cx_nest.all cx_isNest = true := by decide +kernel
theorem cx_isNest_tab {w : Cond} (h : cx_isNest w = true) : w.onTables = true := by cases w <;> first | rfl | (simp [cx_isNest] at h)
theorem cx_isNest_warm {w : Cond} (h : cx_isNest w = true) {s U : State} (hW : s.WarmedH U.vm) (hZ : va_Nw w s) : va_Nw w U := by
  cases w <;> first | exact va_Nw.warmF hW hZ | exact va_Nw.warmM hW hZ | (simp [cx_isNest] at h)
theorem kn_19 : (Jvm.Cond.methodLinkNest "BuildDrawer" (11 : Nat) ({ cls := "BuildDrawer$Drawing", name := "<init>", desc := "()V" } : Jvm.MethodName) "BuildDrawer") ∈ cx_nest := List.mem_of_getElem? (i := 0) (by rfl)
theorem kn_28 : (Jvm.Cond.fieldLinkNest "BuildDrawer" (72 : Nat) "BuildDrawer$Drawing" "sort" "I" "BuildDrawer") ∈ cx_nest := List.mem_of_getElem? (i := 1) (by rfl)
theorem kn_30 : (Jvm.Cond.fieldLinkNest "BuildDrawer" (75 : Nat) "BuildDrawer$Drawing" "a" "I" "BuildDrawer") ∈ cx_nest := List.mem_of_getElem? (i := 2) (by rfl)
theorem kn_32 : (Jvm.Cond.fieldLinkNest "BuildDrawer" (78 : Nat) "BuildDrawer$Drawing" "b" "I" "BuildDrawer") ∈ cx_nest := List.mem_of_getElem? (i := 3) (by rfl)
theorem kn_34 : (Jvm.Cond.fieldLinkNest "BuildDrawer" (81 : Nat) "BuildDrawer$Drawing" "need" "I" "BuildDrawer") ∈ cx_nest := List.mem_of_getElem? (i := 4) (by rfl)
theorem kn_36 : (Jvm.Cond.fieldLinkNest "BuildDrawer" (84 : Nat) "BuildDrawer$Drawing" "mark" "I" "BuildDrawer") ∈ cx_nest := List.mem_of_getElem? (i := 5) (by rfl)
theorem kn_109 : (Jvm.Cond.methodLinkNest "BuildDrawer" (65 : Nat) ({ cls := "BuildDrawer$Drawing", name := "begin", desc := "(JII)V" } : Jvm.MethodName) "BuildDrawer") ∈ cx_nest := List.mem_of_getElem? (i := 6) (by rfl)
theorem kn_114 : (Jvm.Cond.fieldLinkNest "BuildDrawer$Drawing" (42 : Nat) "BuildDrawer" "SORT_OF_KIND" "[I" "BuildDrawer") ∈ cx_nest := List.mem_of_getElem? (i := 7) (by rfl)
theorem kn_125 : (Jvm.Cond.methodLinkNest "BuildDrawer" (69 : Nat) ({ cls := "BuildDrawer$Drawing", name := "next", desc := "()V" } : Jvm.MethodName) "BuildDrawer") ∈ cx_nest := List.mem_of_getElem? (i := 8) (by rfl)
theorem kn_290 : (Jvm.Cond.methodLinkNest "BuildDrawer" (126 : Nat) ({ cls := "BuildDrawer$Drawing", name := "isAtTheLikeOf", desc := "(LBuildDrawer$Drawing;)Z" } : Jvm.MethodName) "BuildDrawer") ∈ cx_nest := List.mem_of_getElem? (i := 9) (by rfl)
abbrev cx_G : Type := Nat × Nat × Nat
def cx_E (G : cx_G) (A : Nat → Prop) (U : State) (H : Heap) : Prop :=
  (∀ w ∈ cx_nest, va_Nw w U) ∧ (va_Z "BuildDrawer" "SORT_OF_KIND" "[I" (.ref G.1) A U H ∧ va_T .int G.1 8 (fun j => .int (bd_sk j)) A U H) ∧ va_Z "java/lang/String" "COMPACT_STRINGS" "Z" (.int 1) A U H ∧
  (vk_R "BuildDrawer" 149 "FTPRSCLV" G.2.1 U ∧ va_O "java/lang/String" G.2.1 A U H ∧ va_OF "java/lang/String" "coder" "B" (.int 0) G.2.1 A U H ∧ va_OF "java/lang/String" "value" "[B" (.ref G.2.2) G.2.1 A U H ∧ va_T .byte G.2.2 8 (fun j => .int (bd_lt j)) A U H) ∧
  va_Zq "jdk/internal/util/Preconditions" "SIOOBE_FORMATTER" "Ljava/util/function/BiFunction;" A U H
theorem cx_E.calling {G : cx_G} {A : Nat → Prop} {U : State} {H : Heap} {g : JFrame} {mk : MethodId} {a : Array Value} (h : cx_E G A U H) : cx_E G A (U.calling g mk a) H := by
  obtain ⟨h1, ⟨h2, h3⟩, h4, ⟨h5, h6, h7, h8, h9⟩, h10⟩ := h
  have hv : U.vm.Alike (U.calling g mk a).vm := Vm.Alike.refl U.vm
  exact ⟨fun w hw => va_Nw.same (u := U) (U := U.calling g mk a) (cx_isNest_tab (List.all_eq_true.mp cx_nest_all w hw)) rfl (h1 w hw), ⟨va_Z.moved hv h2, va_T.moved hv h3⟩, va_Z.moved hv h4, ⟨vk_R.same rfl h5, va_O.moved hv h6, va_OF.moved hv h7, va_OF.moved hv h8, va_T.moved hv h9⟩, va_Zq.moved hv h10⟩
theorem cx_E.at {G : cx_G} {A B : Nat → Prop} {s U : State} {H H1 : Heap} (h : cx_E G A s H) (hW : s.WarmedH U.vm) (hq : ∀ a : Nat, a < H.size → ¬ A a → H1[a]? = H[a]?) (hAB : ∀ q, B q → A q) : cx_E G B U H1 := by
  obtain ⟨h1, ⟨h2, h3⟩, h4, ⟨h5, h6, h7, h8, h9⟩, h10⟩ := h
  have hv : s.vm.Alike U.vm := hW.alike
  exact ⟨fun w hw => cx_isNest_warm (List.all_eq_true.mp cx_nest_all w hw) hW (h1 w hw), ⟨((va_Z.moved hv h2).kept hq).narrow hAB, ((va_T.moved hv h3).kept hq).narrow hAB⟩, ((va_Z.moved hv h4).kept hq).narrow hAB, ⟨vk_R.warm hW h5, ((va_O.moved hv h6).kept hq).narrow hAB, ((va_OF.moved hv h7).kept hq).narrow hAB, ((va_OF.moved hv h8).kept hq).narrow hAB, ((va_T.moved hv h9).kept hq).narrow hAB⟩, ((va_Zq.moved hv h10).kept hq).narrow hAB⟩
/-- a nest word, where it is used -/
theorem cx_E.nw {G : cx_G} {A : Nat → Prop} {U : State} {H : Heap} (h : cx_E G A U H) {w : Cond} (hw : w ∈ cx_nest) {B : Array Value} : w.before B U = true := va_Nw.use (cx_isNest_tab (List.all_eq_true.mp cx_nest_all w hw)) (h.1 w hw)
/-! the callee's words -/
theorem cx_gI {y : MethodName} {b : ByteArray} {n : Nat} {r : Option FieldType} (h : Cond.code y b n r ∈ cw) : GoodIn cw (.code y b n r :: cw) := by
  intro w hw
  rcases List.mem_cons.mp hw with h2 | h2
  · rw [h2]; exact ⟨h, cw_good _ h⟩
  · exact ⟨h2, cw_good _ h2⟩
theorem cx_gV {own C : String} {idx : Nat} {y : MethodName} {b : ByteArray} {n : Nat} {r : Option FieldType} (h1 : Cond.methodLink own idx y ∈ cw) (h2 : Cond.instanceMethod y ∈ cw) (h3 : Cond.selects C y y ∈ cw) (h4 : Cond.initialized C ∈ cw) (h : Cond.code y b n r ∈ cw) : GoodIn cw (wsV own idx C y (.code y b n r :: cw)) := by
  intro w hw
  rcases List.mem_append.mp hw with h5 | h5
  · simp only [List.mem_cons, List.not_mem_nil, or_false] at h5
    rcases h5 with h5 | h5 | h5 | h5 <;> rw [h5]
    · exact ⟨h1, cw_good _ h1⟩
    · exact ⟨h2, cw_good _ h2⟩
    · exact ⟨h3, cw_good _ h3⟩
    · exact ⟨h4, cw_good _ h4⟩
  · exact cx_gI h w h5
theorem cx_gS {own : String} {idx : Nat} {y : MethodName} {b : ByteArray} {n : Nat} {r : Option FieldType} (h1 : Cond.methodLink own idx y ∈ cw) (h2 : Cond.static y ∈ cw) (h4 : Cond.initialized y.cls ∈ cw) (h : Cond.code y b n r ∈ cw) : GoodIn cw (va_wsS own idx y (.code y b n r :: cw)) := by
  intro w hw
  rcases List.mem_append.mp hw with h5 | h5
  · simp only [List.mem_cons, List.not_mem_nil, or_false] at h5
    rcases h5 with h5 | h5 | h5 <;> rw [h5]
    · exact ⟨h1, cw_good _ h1⟩
    · exact ⟨h2, cw_good _ h2⟩
    · exact ⟨h4, cw_good _ h4⟩
  · exact cx_gI h w h5
theorem cx_inc (n : Nat) : nI n + Int32.ofInt 1 = nI (n + 1) := nI_1 n
section CX
variable {p : Program} {l : Launch} {e : Env} {R : Room} {s : State} {m : MethodId} {args : Array Value} {below : List Frame} {meth : Method} {c : Code} {H : Heap} {locs : List Loc} {cells slots : Nat} {Q : State → Prop}
variable {cc : ByteArray} {pc : Nat} {ls : Array Slot} {rest : List Value} {D : va_G} {G : cx_G} {A : Nat → Prop}
/-- the top of the stack under another name -/
theorem cx_ti {x y : Int32} (h : x = y) (k : W p l e R s m args below meth c H locs cells slots Q (F0 m pc ls (.int y :: rest))) : W p l e R s m args below meth c H locs cells slots Q (F0 m pc ls (.int x :: rest)) := h ▸ k
theorem cx_tl {x y : Int64} (h : x = y) (k : W p l e R s m args below meth c H locs cells slots Q (F0 m pc ls (.long y :: rest))) : W p l e R s m args below meth c H locs cells slots Q (F0 m pc ls (.long x :: rest)) := h ▸ k
/-- a loop: an invariant over the heap and the locals, a measure that falls -/
theorem cx_loop {α : Type} (I : α → Heap → List Loc → Array Slot → Prop) (μ : α → Nat) {st : List Value}
    (hs : ∀ a H locs ls, I a H locs ls → (∀ a' H' locs' ls', I a' H' locs' ls' → μ a' < μ a → W p l e R s m args below meth c H' locs' cells slots Q (F0 m pc ls' st)) → W p l e R s m args below meth c H locs cells slots Q (F0 m pc ls st))
    (a : α) (h : I a H locs ls) : W p l e R s m args below meth c H locs cells slots Q (F0 m pc ls st) := by
  have main : ∀ (n : Nat) (a : α) (H : Heap) (locs : List Loc) (ls : Array Slot), μ a < n → I a H locs ls → W p l e R s m args below meth c H locs cells slots Q (F0 m pc ls st) := by
    intro n
    induction n with
    | zero => intro a H locs ls h; exact absurd h (Nat.not_lt_zero _)
    | succ n ih => intro a H locs ls hlt hI; exact hs a H locs ls hI (fun a' H' locs' ls' hI' hlt' => ih a' H' locs' ls' (by omega) hI')
  exact main (μ a + 1) a H locs ls (Nat.lt_succ_self _) h
/-- a method's start: the world, the tables, the environment -/
def cx_Pc (G : cx_G) (D : va_G) (tys : List (ClassId × FieldType)) (ws : va_W) (sz : Nat) (av : List Value) : Array Value → State → Prop :=
  va_Pc av (fun U => U.heap.size = sz ∧ va_P D vwCl ws U.heap ∧ va_K D vwCl tys U ∧ va_D (fun _ => True) ws ∧ cx_E G (va_A ws sz) U U.heap)
def cx_B (D : va_G) (tys : List (ClassId × FieldType)) (A : Nat → Prop) (ws : va_W) (t : State) : Prop := va_P D vwCl ws t.heap ∧ va_K D vwCl tys t ∧ va_D A ws
def cx_Qi (r0 : Int32) (D : va_G) (tys : List (ClassId × FieldType)) (w1 : va_W) (A : Nat → Prop) : Array Value → State → Outcome → State → Prop := va_Qi (S := Unit) (fun r _ => r = r0) (fun _ => cx_B D tys A w1) A
def cx_Ql (r0 : Int64) (D : va_G) (tys : List (ClassId × FieldType)) (w1 : va_W) (A : Nat → Prop) : Array Value → State → Outcome → State → Prop := va_Ql (S := Unit) (fun r _ => r = r0) (fun _ => cx_B D tys A w1) A
def cx_Qv (D : va_G) (tys : List (ClassId × FieldType)) (w1 : va_W) (A : Nat → Prop) : Array Value → State → Outcome → State → Prop := va_Qv (S := Unit) (fun _ => True) (fun _ => cx_B D tys A w1) A
theorem cx_blind {tys : List (ClassId × FieldType)} {ws : va_W} {sz : Nat} {av : List Value} : FrameBlind (cx_Pc G D tys ws sz av) := by
  intro a U g mk q
  obtain ⟨h0, h1, h2, h3, h4, h5⟩ := q
  exact ⟨h0, h1, h2, va_K.moved (u := U) (U := U.calling g mk a) (Vm.Alike.refl U.vm) h3, h4, cx_E.calling h5⟩
theorem cx_pre {tys : List (ClassId × FieldType)} {ws wc : va_W} {av : List Value} (hK : va_K D vwCl tys s) (hP : va_P D vwCl ws H) (hD : va_D A ws) (hS : va_S A s.heap H locs) (hA : ∀ q, s.heap.size ≤ q → A q) (hE : cx_E G A s s.heap) (isC : List Nat) (hC : isC.filterMap (fun i => ws[i]?) = wc) (hC2 : isC.map (fun i => ws[i]?) = wc.map some) (hn : va_nd isC = true) : PreS s H (cx_Pc G D tys wc H.size av) av := by
  refine ⟨cx_blind, fun U hU hW => ⟨rfl, by rw [hU], ?_, va_K.moved hW.alike hK, (hD.sub isC hn hC2).weaken (fun _ _ _ _ => trivial), ?_⟩⟩
  · rw [hU]; exact hP.sub isC hC
  · rw [hU]; exact cx_E.at hE hW hS.2.1 (va_free hD hS hA isC hC2)
theorem cx_preV {C : String} {T : u_T} {N ci b q0 : Nat} {fs As : List Value} {tys : List (ClassId × FieldType)} {ws wc : va_W} (hK : va_K D vwCl tys s) (hP : va_P D vwCl ws H) (hD : va_D A ws) (hS : va_S A s.heap H locs) (hA : ∀ q, s.heap.size ≤ q → A q) (hE : cx_E G A s s.heap) (hc : vwCl[ci]? = some (C, T, N)) (he : ws[q0]? = some (b, .inr (ci, fs))) (isC : List Nat) (hC : isC.filterMap (fun i => ws[i]?) = wc) (hC2 : isC.map (fun i => ws[i]?) = wc.map some) (hn : va_nd isC = true) : PreV s H C b (cx_Pc G D tys wc H.size (.ref b :: As)) As :=
  ⟨cx_blind, va_recv hK hP hc he, (cx_pre hK hP hD hS hA hE isC hC hC2 hn).2⟩
section CXC
variable {st0 : List Value} {a : Array Value} {mc ms : Nat} {tys : List (ClassId × FieldType)} {ws wc wr w1 wN : va_W}
theorem cx_perm {A : Nat → Prop} {ws wN : va_W} (hP : va_P D vwCl ws H) (hD : va_D A ws) (pm : List Nat) (h1 : pm.filterMap (fun i => ws[i]?) = wN) (h2 : pm.map (fun i => ws[i]?) = wN.map some) (hn : va_nd pm = true) : va_P D vwCl wN H ∧ va_D A wN := ⟨hP.sub pm h1, hD.sub pm hn h2⟩
theorem cx_ci {r0 : Int32} (hr : va_Run p l e R s m args below meth c H locs cells slots mc ms (F0 m pc ls st0) rest (cx_Qi r0 D tys w1 (va_A wc H.size) a) (va_A wc H.size)) (hP : va_P D vwCl ws H) (hD : va_D A ws) (hS : va_S A s.heap H locs) (hA : ∀ q, s.heap.size ≤ q → A q) (isC isR : List Nat) (hC : isC.map (fun i => ws[i]?) = wc.map some) (hR : isR.map (fun i => ws[i]?) = wr.map some) (hn : va_nd isR = true) (hdis : ∀ i ∈ isR, i ∉ isC) (pm : List Nat) (hp1 : pm.filterMap (fun i => (wr ++ w1)[i]?) = wN) (hp2 : pm.map (fun i => (wr ++ w1)[i]?) = wN.map some) (hpn : va_nd pm = true)
    (kk : ∀ (H1 : Heap) (locs1 : List Loc), va_P D vwCl wN H1 → va_D A wN → va_S A s.heap H1 locs1 → W p l e R s m args below meth c H1 locs1 (cells + mc) (slots + ms) Q (F0 m (pc + 3) ls (.int r0 :: rest))) : W p l e R s m args below meth c H locs cells slots Q (F0 m pc ls st0) := by
  have hF := va_free (wc := wc) hD hS hA isC hC
  refine va_calli hr hS (fun q _ h => hF q h) hF (fun r u t H1 locs1 ht hvm hw hB hz hk hS1 => ?_)
  obtain ⟨hP1, hK1, hD1⟩ := hB
  rw [ht] at hP1
  obtain ⟨hP2, hD2⟩ := va_join hP hD isC isR hC hR hn hdis hk hF hP1 hD1
  obtain ⟨hP3, hD3⟩ := cx_perm hP2 hD2 pm hp1 hp2 hpn
  rw [hw]
  exact kk H1 locs1 hP3 hD3 hS1
theorem cx_cl {r0 : Int64} (hr : va_Run p l e R s m args below meth c H locs cells slots mc ms (F0 m pc ls st0) rest (cx_Ql r0 D tys w1 (va_A wc H.size) a) (va_A wc H.size)) (hP : va_P D vwCl ws H) (hD : va_D A ws) (hS : va_S A s.heap H locs) (hA : ∀ q, s.heap.size ≤ q → A q) (isC isR : List Nat) (hC : isC.map (fun i => ws[i]?) = wc.map some) (hR : isR.map (fun i => ws[i]?) = wr.map some) (hn : va_nd isR = true) (hdis : ∀ i ∈ isR, i ∉ isC) (pm : List Nat) (hp1 : pm.filterMap (fun i => (wr ++ w1)[i]?) = wN) (hp2 : pm.map (fun i => (wr ++ w1)[i]?) = wN.map some) (hpn : va_nd pm = true)
    (kk : ∀ (H1 : Heap) (locs1 : List Loc), va_P D vwCl wN H1 → va_D A wN → va_S A s.heap H1 locs1 → W p l e R s m args below meth c H1 locs1 (cells + mc) (slots + ms) Q (F0 m (pc + 3) ls (.long r0 :: rest))) : W p l e R s m args below meth c H locs cells slots Q (F0 m pc ls st0) := by
  have hF := va_free (wc := wc) hD hS hA isC hC
  refine va_calll hr hS (fun q _ h => hF q h) hF (fun r u t H1 locs1 ht hvm hw hB hz hk hS1 => ?_)
  obtain ⟨hP1, hK1, hD1⟩ := hB
  rw [ht] at hP1
  obtain ⟨hP2, hD2⟩ := va_join hP hD isC isR hC hR hn hdis hk hF hP1 hD1
  obtain ⟨hP3, hD3⟩ := cx_perm hP2 hD2 pm hp1 hp2 hpn
  rw [hw]
  exact kk H1 locs1 hP3 hD3 hS1
theorem cx_cv (hr : va_Run p l e R s m args below meth c H locs cells slots mc ms (F0 m pc ls st0) rest (cx_Qv D tys w1 (va_A wc H.size) a) (va_A wc H.size)) (hP : va_P D vwCl ws H) (hD : va_D A ws) (hS : va_S A s.heap H locs) (hA : ∀ q, s.heap.size ≤ q → A q) (isC isR : List Nat) (hC : isC.map (fun i => ws[i]?) = wc.map some) (hR : isR.map (fun i => ws[i]?) = wr.map some) (hn : va_nd isR = true) (hdis : ∀ i ∈ isR, i ∉ isC) (pm : List Nat) (hp1 : pm.filterMap (fun i => (wr ++ w1)[i]?) = wN) (hp2 : pm.map (fun i => (wr ++ w1)[i]?) = wN.map some) (hpn : va_nd pm = true)
    (kk : ∀ (H1 : Heap) (locs1 : List Loc), va_P D vwCl wN H1 → va_D A wN → va_S A s.heap H1 locs1 → W p l e R s m args below meth c H1 locs1 (cells + mc) (slots + ms) Q (F0 m (pc + 3) ls rest)) : W p l e R s m args below meth c H locs cells slots Q (F0 m pc ls st0) := by
  have hF := va_free (wc := wc) hD hS hA isC hC
  refine va_callv hr hS (fun q _ h => hF q h) hF (fun u t H1 locs1 ht hvm hw hB hz hk hS1 => ?_)
  obtain ⟨hP1, hK1, hD1⟩ := hB
  rw [ht] at hP1
  obtain ⟨hP2, hD2⟩ := va_join hP hD isC isR hC hR hn hdis hk hF hP1 hD1
  obtain ⟨hP3, hD3⟩ := cx_perm hP2 hD2 pm hp1 hp2 hpn
  exact kk H1 locs1 hP3 hD3 hS1
end CXC
/-! the ends -/
theorem cx_iret {r r0 : Int32} {tys : List (ClassId × FieldType)} {w w1 : va_W} (hx : p.tables.exec = Jvm.exec) (hb : c.code = cc) (hr : meth.sig.returnType = some .int) (hlocks : meth.locks = false) (hK : va_K D vwCl tys s) (hP : va_P D vwCl w H) (hD : va_D A w) (hS : va_S A s.heap H locs) (hdg : decode cc pc = .ok (.ireturn, 1)) (he : r = r0) (hw : w = w1) : W p l e R s m args below meth c H locs cells slots (MQ below (cx_Qi r0 D tys w1 A) args s cells slots A) (F0 m pc ls [.int r]) := by
  subst hw
  exact W.iret hx hb hr (fun t ht hW => ⟨⟨r, (), rfl, he, by rw [ht]; exact hP, va_K.moved hW.alike hK, hD⟩, hS.F ht⟩) hS.2.2 hdg hlocks
theorem cx_zret {r r0 : Int32} {ty : FieldType} {tys : List (ClassId × FieldType)} {w w1 : va_W} (hx : p.tables.exec = Jvm.exec) (hb : c.code = cc) (hr : meth.sig.returnType = some ty) (hlocks : meth.locks = false) (hK : va_K D vwCl tys s) (hP : va_P D vwCl w H) (hD : va_D A w) (hS : va_S A s.heap H locs) (hdg : decode cc pc = .ok (.ireturn, 1)) (hn : narrow ty (.int r) = .int r) (he : r = r0) (hw : w = w1) : W p l e R s m args below meth c H locs cells slots (MQ below (cx_Qi r0 D tys w1 A) args s cells slots A) (F0 m pc ls [.int r]) := by
  subst hw
  exact W.zret hx hb hr hn (fun t ht hW => ⟨⟨r, (), rfl, he, by rw [ht]; exact hP, va_K.moved hW.alike hK, hD⟩, hS.F ht⟩) hS.2.2 hdg hlocks
theorem cx_lret {r r0 : Int64} {tys : List (ClassId × FieldType)} {w w1 : va_W} (hx : p.tables.exec = Jvm.exec) (hb : c.code = cc) (hr : meth.sig.returnType = some .long) (hlocks : meth.locks = false) (hK : va_K D vwCl tys s) (hP : va_P D vwCl w H) (hD : va_D A w) (hS : va_S A s.heap H locs) (hdg : decode cc pc = .ok (.lreturn, 1)) (he : r = r0) (hw : w = w1) : W p l e R s m args below meth c H locs cells slots (MQ below (cx_Ql r0 D tys w1 A) args s cells slots A) (F0 m pc ls [.long r]) := by
  subst hw
  exact W.lret hx hb hr (fun t ht hW => ⟨⟨r, (), rfl, he, by rw [ht]; exact hP, va_K.moved hW.alike hK, hD⟩, hS.F ht⟩) hS.2.2 hdg hlocks
theorem cx_vret {tys : List (ClassId × FieldType)} {w w1 : va_W} (hx : p.tables.exec = Jvm.exec) (hb : c.code = cc) (hr : meth.sig.returnType = none) (hlocks : meth.locks = false) (hK : va_K D vwCl tys s) (hP : va_P D vwCl w H) (hD : va_D A w) (hS : va_S A s.heap H locs) (hdg : decode cc pc = .ok (.return_, 1)) (hw : w = w1) : W p l e R s m args below meth c H locs cells slots (MQ below (cx_Qv D tys w1 A) args s cells slots A) (F0 m pc ls []) := by
  subst hw
  exact W.vret hx hb hr (fun t ht hW => ⟨⟨(), rfl, trivial, by rw [ht]; exact hP, va_K.moved hW.alike hK, hD⟩, hS.F ht⟩) hS.2.2 hdg hlocks
end CX
