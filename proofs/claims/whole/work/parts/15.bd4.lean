theorem cx_recvS {p : Program} {s : State} {H : Heap} {locs : List Loc} {G : cx_G} {A : Nat → Prop} (hE : cx_E G A s s.heap) (hS : va_S A s.heap H locs) : ∃ cell : Cell, H[G.2.1]? = some cell ∧ cell.vm.isStatics = false ∧ s.vm.findClass "java/lang/String" = some cell.cls := by
  obtain ⟨cell, h1, h2, h3, -⟩ := hE.2.2.2.1.2.1.kept hS.2.1
  exact ⟨cell, h1, h2, h3⟩
theorem cx_preS {s : State} {H : Heap} {locs : List Loc} {D : va_G} {G : cx_G} {A : Nat → Prop} {As : List Value} {tys : List (ClassId × FieldType)} {ws wc : va_W} (hK : va_K D vwCl tys s) (hP : va_P D vwCl ws H) (hD : va_D A ws) (hS : va_S A s.heap H locs) (hA : ∀ q, s.heap.size ≤ q → A q) (hE : cx_E G A s s.heap) (isC : List Nat) (hC : isC.filterMap (fun i => ws[i]?) = wc) (hC2 : isC.map (fun i => ws[i]?) = wc.map some) (hn : va_nd isC = true) : PreV s H "java/lang/String" G.2.1 (cx_Pc G D tys wc H.size (.ref G.2.1 :: As)) As := by
  obtain ⟨cell, h1, h2, h3, -⟩ := hE.2.2.2.1.2.1.kept hS.2.1
  exact ⟨cx_blind, ⟨cell, h1, h2, h3⟩, (cx_pre hK hP hD hS hA hE isC hC hC2 hn).2⟩
def bd_b1 (x : Int32) : Int32 := x - ((x.toUInt32 >>> ((1 : Int32).toUInt32 &&& Int32.toUInt32 31)).toInt32 &&& 1431655765)
def bd_b2 (x : Int32) : Int32 := (x &&& 858993459) + ((x.toUInt32 >>> ((2 : Int32).toUInt32 &&& Int32.toUInt32 31)).toInt32 &&& 858993459)
def bd_b3 (x : Int32) : Int32 := (x + (x.toUInt32 >>> ((4 : Int32).toUInt32 &&& Int32.toUInt32 31)).toInt32) &&& 252645135
def bd_b4 (x : Int32) : Int32 := x + (x.toUInt32 >>> ((8 : Int32).toUInt32 &&& Int32.toUInt32 31)).toInt32
def bd_b5 (x : Int32) : Int32 := x + (x.toUInt32 >>> ((16 : Int32).toUInt32 &&& Int32.toUInt32 31)).toInt32
def bd_bc (x : Int32) : Int32 := bd_b5 (bd_b4 (bd_b3 (bd_b2 (bd_b1 x)))) &&& 63
def bd_part (fS fA fB fN fM fL : Nat → Int32) (cnt k : Nat) (wh : Int32) : Int64 := if wh = 0 then (fS k).toInt64 else if wh = 1 then (fA k).toInt64 else if wh = 2 then (fB k).toInt64 else if wh = 3 then (fN k).toInt64 else if wh = 4 then (fM k).toInt64 else if wh = 5 then (if fL k = 0 then 0 else 1) else if wh = 6 then (bd_bc (bd_cs fL fS fB cnt)).toInt64 else -2
def bd_ltN (k : Nat) : Nat := [70, 84, 80, 82, 83, 67, 76, 86].getD k 0
theorem bd_ltE : ∀ k, k < 8 → bd_lt k = nI (bd_ltN k) := by decide +kernel
theorem bd_ltL : ∀ k, k < 8 → bd_ltN k < 256 := by decide +kernel
theorem bd_ltC : ∀ k, k < 8 → ((bd_lt k &&& 255).toUInt32 % 65536).toInt32 = nI (bd_ltN k) := by decide +kernel
theorem bd_c16 {q : Nat} (h : q < 65536) : ((nI q).toUInt32 % 65536).toInt32 = nI q := by
  rw [pk_char, pk_tn (by omega), Nat.mod_eq_of_lt h]
theorem bd_nc {q : Nat} (h : q < 65536) : vp_nar .char (nI q) = nI q := by rw [vp_nar, (pk_charN h).1]
/-- a row with cs written from n on -/
def bd_app (f : Nat → Int32) (n : Nat) (cs : List Nat) : Nat → Int32 := fun j => if n ≤ j ∧ j < n + cs.length then nI (cs.getD (j - n) 0) else f j
theorem bd_app1 (f : Nat → Int32) (n q : Nat) : upd f n (nI q) = bd_app f n [q] := by
  funext j
  by_cases h : j = n
  · subst h; rw [pk_us]; simp [bd_app]
  · rw [pk_un h]
    have h2 : ¬ (n ≤ j ∧ j < n + 1) := by omega
    simp only [bd_app, List.length_cons, List.length_nil, Nat.zero_add, if_neg h2]
theorem bd_app_app (f : Nat → Int32) (n : Nat) (cs ds : List Nat) : bd_app (bd_app f n cs) (n + cs.length) ds = bd_app f n (cs ++ ds) := by
  funext j
  by_cases h1 : n + cs.length ≤ j ∧ j < n + cs.length + ds.length
  · have h2 : n ≤ j ∧ j < n + (cs ++ ds).length := by rw [List.length_append]; omega
    simp only [bd_app, if_pos h1, if_pos h2]
    rw [List.getD_eq_getElem?_getD, List.getD_eq_getElem?_getD, List.getElem?_append_right (by omega), show j - (n + cs.length) = j - n - cs.length by omega]
  · by_cases h3 : n ≤ j ∧ j < n + cs.length
    · have h2 : n ≤ j ∧ j < n + (cs ++ ds).length := by rw [List.length_append]; omega
      simp only [bd_app, if_neg h1, if_pos h2, if_pos h3]
      rw [List.getD_eq_getElem?_getD, List.getD_eq_getElem?_getD, List.getElem?_append_left (by omega)]
    · have h2 : ¬ (n ≤ j ∧ j < n + (cs ++ ds).length) := by rw [List.length_append]; omega
      simp only [bd_app, if_neg h1, if_neg h2, if_neg h3]
theorem bd_app0 (f : Nat → Int32) (n : Nat) : bd_app f n [] = f := by
  funext j
  have h : ¬ (n ≤ j ∧ j < n + 0) := by omega
  simp only [bd_app, List.length_nil, if_neg h]
theorem bd_tl (n : Nat) (a b : List Nat) : nI (n + a.length + b.length) = nI (n + (a ++ b).length) := by rw [List.length_append, Nat.add_assoc]
def bd_dg (q : Nat) : List Nat := if q < 100 then (if q < 10 then [48 + q % 10] else [48 + q / 10 % 10] ++ [48 + q % 10]) else [48 + q / 100] ++ [48 + q / 10 % 10] ++ [48 + q % 10]
theorem bd_dg3 (q : Nat) : (bd_dg q).length ≤ 3 := by unfold bd_dg; split; split; all_goals simp
theorem bd_dg2 {q : Nat} (h : q < 100) : (bd_dg q).length ≤ 2 := by unfold bd_dg; rw [if_pos h]; split; all_goals simp
/-- a part's text -/
def bd_ptN (x : Int32) : List Nat := if x = -1 then [] else [60] ++ bd_dg x.toNatClampNeg
def bd_pt (k : Nat) (s a b x : Int32) : List Nat := [bd_ltN s.toNatClampNeg] ++ bd_dg k ++ [40] ++ bd_dg a.toNatClampNeg ++ [44] ++ bd_dg b.toNatClampNeg ++ [41] ++ bd_ptN x ++ [59]
def bd_ok (s a b x : Int32) : Prop := (∃ m, m < 8 ∧ s = nI m) ∧ (∃ m, m < 1000 ∧ a = nI m) ∧ (∃ m, m < 1000 ∧ b = nI m) ∧ (x = -1 ∨ ∃ m, m < 100 ∧ x = nI m)
theorem bd_pt_len {k : Nat} {s a b x : Int32} (hk : k < 100) (h : bd_ok s a b x) : (bd_pt k s a b x).length ≤ 16 := by
  obtain ⟨-, -, -, h⟩ := h
  have h1 := bd_dg2 hk
  have h2 := bd_dg3 a.toNatClampNeg
  have h3 := bd_dg3 b.toNatClampNeg
  have h4 : (bd_ptN x).length ≤ 3 := by
    rcases h with h | ⟨m, hm, h⟩
    · rw [bd_ptN, if_pos h]; exact Nat.zero_le _
    · unfold bd_ptN
      split
      · exact Nat.zero_le _
      · have := bd_dg2 hm
        rw [h, nI_clamp (by omega), List.length_append]
        simp only [List.length_cons, List.length_nil]
        omega
  simp only [bd_pt, List.length_append, List.length_cons, List.length_nil]
  omega
def bd_tx (fS fA fB fN fL : Nat → Int32) : Nat → List Nat
  | 0 => []
  | i + 1 => if fL i = 0 then bd_tx fS fA fB fN fL i else bd_tx fS fA fB fN fL i ++ bd_pt i (fS i) (fA i) (fB i) (fN i)
theorem bd_tx_len {fS fA fB fN fL : Nat → Int32} : ∀ {n : Nat}, n ≤ 62 → (∀ j, j < n → bd_ok (fS j) (fA j) (fB j) (fN j)) → (bd_tx fS fA fB fN fL n).length ≤ 16 * n := by
  intro n
  induction n with
  | zero => intro _ _; exact Nat.zero_le _
  | succ n ih =>
    intro hn h
    have h1 := ih (by omega) (fun j hj => h j (by omega))
    have h2 := bd_pt_len (k := n) (by omega) (h n (by omega))
    rw [bd_tx]
    split
    · omega
    · rw [List.length_append]; omega
/-- sign i of a text -/
def bd_ch (L : List Nat) (i : Int32) : Int32 := if i < 0 then -1 else if nI L.length ≤ i then -1 else nI (L.getD i.toNatClampNeg 0)
set_option maxHeartbeats 4000000 in
set_option maxRecDepth 100000 in
theorem c_I_bitCount (l : Launch) (G : cx_G) (D : va_G) (K : cx_KT) (sz : Nat) (x : Int32)  : Met l y_I_bitCount w_I_bitCount ({ frames := 0, cells := 0, slots := 0, locals := 0 }) (cx_Pc G D (cx_ty K) [] sz [.int x]) (cx_Qi (bd_bc x) D (cx_ty K) [] (va_A [] sz)) 0 0 (va_A [] sz) := by
  refine Met.ofW (cc := prog_5_method_49_code) (maxL := 1) (ret := (some .int)) (by decide) rfl ?_
  intro p e s m args below meth c s₁ B hml hv
  obtain ⟨rfl, hsz, hP, hK, hD0, hE⟩ := hv
  have hx := B.exec
  have hb := B.bytes
  have hr := B.returns
  have hts := atoms_spec (ws := w_I_bitCount) B.pre
  have hw : ∀ w ∈ cw, w.before _ s = true := fun w h => hts w (List.mem_cons_of_mem _ h)
  have hown : s.vm.findClass "java/lang/Integer" = some m.cls := findClass_of_methodNamed B.named
  have hlocks := B.notSynchronized
  subst hsz
  have hD := hD0.self (sz := s.heap.size)
  generalize hAe : va_A [] s.heap.size = A at hD hE ⊢
  have hA : ∀ q : Nat, s.heap.size ≤ q → A q := fun q h => by rw [← hAe]; exact Or.inr h
  have hS : va_S A s.heap s.heap [] := va_S.rf
  have hl := lv_entry ([.int x]) (n := 1) (Nat.le_of_ble_eq_true rfl)
  rw [lg_entry_eq]
  generalize (lg_sl ([.int x]) ++ List.replicate (1 - (lg_sl ([.int x])).length) Slot.unset).toArray = ls at hl ⊢
  have hl : lv_has ls 1 [(0, .int x)] := hl
  refine lv_iload_n hx hb d_I_bitCount_0 rfl (lv_at hl 0 rfl) ?_
  refine lv_iload_n hx hb d_I_bitCount_1 rfl (lv_at hl 0 rfl) ?_
  refine lv_iconst (v := 1) hx hb d_I_bitCount_2 (by decide) ?_
  refine lv_iushr (v := (x.toUInt32 >>> ((1 : Int32).toUInt32 &&& Int32.toUInt32 31)).toInt32) hx hb d_I_bitCount_3 (rfl) ?_
  refine lv_ldcw (v := 1431655765) hx hb hown (hw _ k_165) d_I_bitCount_4 ?_
  refine lv_iand hx hb d_I_bitCount_7 ?_
  refine lv_isub hx hb d_I_bitCount_8 ?_
  refine cx_ti (y := bd_b1 x) (rfl) ?_
  refine lv_istore_n (lv' := [(0, .int (bd_b1 x))]) hx hb d_I_bitCount_9 rfl hl (by decide) rfl (fun ls hl => ?_)
  refine lv_iload_n hx hb d_I_bitCount_10 rfl (lv_at hl 0 rfl) ?_
  refine lv_ldcw (v := 858993459) hx hb hown (hw _ k_166) d_I_bitCount_11 ?_
  refine lv_iand hx hb d_I_bitCount_14 ?_
  refine lv_iload_n hx hb d_I_bitCount_15 rfl (lv_at hl 0 rfl) ?_
  refine lv_iconst (v := 2) hx hb d_I_bitCount_16 (by decide) ?_
  refine lv_iushr (v := ((bd_b1 x).toUInt32 >>> ((2 : Int32).toUInt32 &&& Int32.toUInt32 31)).toInt32) hx hb d_I_bitCount_17 (rfl) ?_
  refine lv_ldcw (v := 858993459) hx hb hown (hw _ k_166) d_I_bitCount_18 ?_
  refine lv_iand hx hb d_I_bitCount_21 ?_
  refine lv_iadd hx hb d_I_bitCount_22 ?_
  refine cx_ti (y := bd_b2 (bd_b1 x)) (rfl) ?_
  refine lv_istore_n (lv' := [(0, .int (bd_b2 (bd_b1 x)))]) hx hb d_I_bitCount_23 rfl hl (by decide) rfl (fun ls hl => ?_)
  refine lv_iload_n hx hb d_I_bitCount_24 rfl (lv_at hl 0 rfl) ?_
  refine lv_iload_n hx hb d_I_bitCount_25 rfl (lv_at hl 0 rfl) ?_
  refine lv_iconst (v := 4) hx hb d_I_bitCount_26 (by decide) ?_
  refine lv_iushr (v := ((bd_b2 (bd_b1 x)).toUInt32 >>> ((4 : Int32).toUInt32 &&& Int32.toUInt32 31)).toInt32) hx hb d_I_bitCount_27 (rfl) ?_
  refine lv_iadd hx hb d_I_bitCount_28 ?_
  refine lv_ldcw (v := 252645135) hx hb hown (hw _ k_167) d_I_bitCount_29 ?_
  refine lv_iand hx hb d_I_bitCount_32 ?_
  refine cx_ti (y := bd_b3 (bd_b2 (bd_b1 x))) (rfl) ?_
  refine lv_istore_n (lv' := [(0, .int (bd_b3 (bd_b2 (bd_b1 x))))]) hx hb d_I_bitCount_33 rfl hl (by decide) rfl (fun ls hl => ?_)
  refine lv_iload_n hx hb d_I_bitCount_34 rfl (lv_at hl 0 rfl) ?_
  refine lv_iload_n hx hb d_I_bitCount_35 rfl (lv_at hl 0 rfl) ?_
  refine lv_bipush (v := 8) hx hb d_I_bitCount_36 (by decide) ?_
  refine lv_iushr (v := ((bd_b3 (bd_b2 (bd_b1 x))).toUInt32 >>> ((8 : Int32).toUInt32 &&& Int32.toUInt32 31)).toInt32) hx hb d_I_bitCount_38 (rfl) ?_
  refine lv_iadd hx hb d_I_bitCount_39 ?_
  refine cx_ti (y := bd_b4 (bd_b3 (bd_b2 (bd_b1 x)))) (rfl) ?_
  refine lv_istore_n (lv' := [(0, .int (bd_b4 (bd_b3 (bd_b2 (bd_b1 x)))))]) hx hb d_I_bitCount_40 rfl hl (by decide) rfl (fun ls hl => ?_)
  refine lv_iload_n hx hb d_I_bitCount_41 rfl (lv_at hl 0 rfl) ?_
  refine lv_iload_n hx hb d_I_bitCount_42 rfl (lv_at hl 0 rfl) ?_
  refine lv_bipush (v := 16) hx hb d_I_bitCount_43 (by decide) ?_
  refine lv_iushr (v := ((bd_b4 (bd_b3 (bd_b2 (bd_b1 x)))).toUInt32 >>> ((16 : Int32).toUInt32 &&& Int32.toUInt32 31)).toInt32) hx hb d_I_bitCount_45 (rfl) ?_
  refine lv_iadd hx hb d_I_bitCount_46 ?_
  refine cx_ti (y := bd_b5 (bd_b4 (bd_b3 (bd_b2 (bd_b1 x))))) (rfl) ?_
  refine lv_istore_n (lv' := [(0, .int (bd_b5 (bd_b4 (bd_b3 (bd_b2 (bd_b1 x))))))]) hx hb d_I_bitCount_47 rfl hl (by decide) rfl (fun ls hl => ?_)
  refine lv_iload_n hx hb d_I_bitCount_48 rfl (lv_at hl 0 rfl) ?_
  refine lv_bipush (v := 63) hx hb d_I_bitCount_49 (by decide) ?_
  refine lv_iand hx hb d_I_bitCount_51 ?_
  exact cx_iret hx hb hr hlocks hK hP hD hS d_I_bitCount_52 (rfl) (rfl)
set_option maxHeartbeats 4000000 in
set_option maxRecDepth 100000 in
theorem c_B_part (l : Launch) (G : cx_G) (D : va_G) (K : cx_KT) (sz : Nat) (h0 : Nat) (seed : Int64) (hM : Nat) (hO : Nat) (cnt : Nat) (aS : Nat) (aA : Nat) (aB : Nat) (aN : Nat) (aM : Nat) (aL : Nat) (vb : Int32) (vs : Int32) (aT : Nat) (tl : Int32) (fS : Nat → Int32) (fA : Nat → Int32) (fB : Nat → Int32) (fN : Nat → Int32) (fM : Nat → Int32) (fL : Nat → Int32) (k : Nat) (wh : Int32) (hcnt : cnt ≤ 62) (hk : k < cnt) : Met l y_B_part w_B_part ({ frames := 1, cells := 0, slots := 0, locals := 22 }) (cx_Pc G D (cx_ty K) [(h0, .inr (1, [.long seed, .ref hM, .ref hO, .int (nI cnt), .ref aS, .ref aA, .ref aB, .ref aN, .ref aM, .ref aL, .int vb, .int vs, .ref aT, .int tl])), (aS, .inl (K.1, 62, .inl fS)), (aA, .inl (K.1, 62, .inl fA)), (aB, .inl (K.1, 62, .inl fB)), (aN, .inl (K.1, 62, .inl fN)), (aM, .inl (K.1, 62, .inl fM)), (aL, .inl (K.2.1, 62, .inl fL))] sz [.ref h0, .int (nI k), .int wh]) (cx_Ql (bd_part fS fA fB fN fM fL cnt k wh) D (cx_ty K) [(h0, .inr (1, [.long seed, .ref hM, .ref hO, .int (nI cnt), .ref aS, .ref aA, .ref aB, .ref aN, .ref aM, .ref aL, .int vb, .int vs, .ref aT, .int tl])), (aS, .inl (K.1, 62, .inl fS)), (aA, .inl (K.1, 62, .inl fA)), (aB, .inl (K.1, 62, .inl fB)), (aN, .inl (K.1, 62, .inl fN)), (aM, .inl (K.1, 62, .inl fM)), (aL, .inl (K.2.1, 62, .inl fL))] (va_A [(h0, .inr (1, [.long seed, .ref hM, .ref hO, .int (nI cnt), .ref aS, .ref aA, .ref aB, .ref aN, .ref aM, .ref aL, .int vb, .int vs, .ref aT, .int tl])), (aS, .inl (K.1, 62, .inl fS)), (aA, .inl (K.1, 62, .inl fA)), (aB, .inl (K.1, 62, .inl fB)), (aN, .inl (K.1, 62, .inl fN)), (aM, .inl (K.1, 62, .inl fM)), (aL, .inl (K.2.1, 62, .inl fL))] sz)) 0 0 (va_A [(h0, .inr (1, [.long seed, .ref hM, .ref hO, .int (nI cnt), .ref aS, .ref aA, .ref aB, .ref aN, .ref aM, .ref aL, .int vb, .int vs, .ref aT, .int tl])), (aS, .inl (K.1, 62, .inl fS)), (aA, .inl (K.1, 62, .inl fA)), (aB, .inl (K.1, 62, .inl fB)), (aN, .inl (K.1, 62, .inl fN)), (aM, .inl (K.1, 62, .inl fM)), (aL, .inl (K.2.1, 62, .inl fL))] sz) := by
  refine Met.ofW (cc := prog_1_method_3_code) (maxL := 3) (ret := (some .long)) (by decide) rfl ?_
  intro p e s m args below meth c s₁ B hml hv
  obtain ⟨rfl, hsz, hP, hK, hD0, hE⟩ := hv
  have hx := B.exec
  have hb := B.bytes
  have hr := B.returns
  have hts := atoms_spec (ws := w_B_part) B.pre
  have hw : ∀ w ∈ cw, w.before _ s = true := fun w h => hts w (List.mem_cons_of_mem _ h)
  have hown : s.vm.findClass "BuildDrawer" = some m.cls := findClass_of_methodNamed B.named
  have hlocks := B.notSynchronized
  subst hsz
  have hD := hD0.self (sz := s.heap.size)
  generalize hAe : va_A [(h0, .inr (1, [.long seed, .ref hM, .ref hO, .int (nI cnt), .ref aS, .ref aA, .ref aB, .ref aN, .ref aM, .ref aL, .int vb, .int vs, .ref aT, .int tl])), (aS, .inl (K.1, 62, .inl fS)), (aA, .inl (K.1, 62, .inl fA)), (aB, .inl (K.1, 62, .inl fB)), (aN, .inl (K.1, 62, .inl fN)), (aM, .inl (K.1, 62, .inl fM)), (aL, .inl (K.2.1, 62, .inl fL))] s.heap.size = A at hD hE ⊢
  have hA : ∀ q : Nat, s.heap.size ≤ q → A q := fun q h => by rw [← hAe]; exact Or.inr h
  have hS : va_S A s.heap s.heap [] := va_S.rf
  have hl := lv_entry ([.ref h0, .int (nI k), .int wh]) (n := 3) (Nat.le_of_ble_eq_true rfl)
  rw [lg_entry_eq]
  generalize (lg_sl ([.ref h0, .int (nI k), .int wh]) ++ List.replicate (3 - (lg_sl ([.ref h0, .int (nI k), .int wh])).length) Slot.unset).toArray = ls at hl ⊢
  have hl : lv_has ls 3 [(0, .ref h0), (1, .int (nI k)), (2, .int wh)] := hl
  refine lv_aload_n hx hb d_B_part_0 rfl (lv_at hl 0 rfl) ?_
  refine lv_iload_n hx hb d_B_part_1 rfl (lv_at hl 1 rfl) ?_
  refine cx_ci (wr := [(aS, .inl (K.1, 62, .inl fS)), (aA, .inl (K.1, 62, .inl fA)), (aB, .inl (K.1, 62, .inl fB)), (aN, .inl (K.1, 62, .inl fN)), (aM, .inl (K.1, 62, .inl fM)), (aL, .inl (K.2.1, 62, .inl fL))]) (wN := [(h0, .inr (1, [.long seed, .ref hM, .ref hO, .int (nI cnt), .ref aS, .ref aA, .ref aB, .ref aN, .ref aM, .ref aL, .int vb, .int vs, .ref aT, .int tl])), (aS, .inl (K.1, 62, .inl fS)), (aA, .inl (K.1, 62, .inl fA)), (aB, .inl (K.1, 62, .inl fB)), (aN, .inl (K.1, 62, .inl fN)), (aM, .inl (K.1, 62, .inl fM)), (aL, .inl (K.2.1, 62, .inl fL))]) (va_runV (As := [.int (nI k)]) (rest := []) ⟨hx, hb, hml, hown, hw⟩ (c_B_isPart l G D K s.heap.size h0 seed hM hO cnt aS aA aB aN aM aL vb vs aT tl (nI k)) (cwV 1 hw (cx_gV k_153 k_155 ks_B_isPart k_1 k_156) rfl rfl rfl (by decide +kernel) ⟨Nat.le_of_ble_eq_true rfl, Nat.le_of_ble_eq_true rfl⟩) (cx_preV (q0 := 0) (ci := 1) hK hP hD hS hA hE rfl rfl [0] rfl rfl (by decide)) rfl rfl hl.1 rfl (lv_room (Nat.le_of_ble_eq_true rfl)) d_B_part_2 ⟨Nat.le_of_ble_eq_true rfl, Nat.le_of_ble_eq_true rfl⟩) hP hD hS hA [0] [1, 2, 3, 4, 5, 6] rfl rfl (by decide) (by decide) [6, 0, 1, 2, 3, 4, 5] rfl rfl (by decide) (fun H locs hP hD hS => ?_)
  refine cx_ti (y := 1) (bd_ip_in hcnt hk) ?_
  refine lv_if_ne (tgt := 12) hx hb d_B_part_5 (by decide) (fun r_5 => ?_) (fun r_5 => ?_)
  · have c_5 := r_5
    refine lv_iload_n hx hb d_B_part_12 rfl (lv_at hl 2 rfl) ?_
    by_cases z_0 : wh = 0
    · refine lv_tableIn (tgt := 56) (off := 43) hx hb d_B_part_13 (by rw [z_0]; decide) (by rw [z_0]; decide) (by rw [z_0]; rfl) (by decide) ?_
      refine lv_aload_n hx hb d_B_part_56 rfl (lv_at hl 0 rfl) ?_
      refine va_get (D := D) (ci := 1) (v := .ref aS) (C := "BuildDrawer") (T := TB) (N := 14) hx hb hw inB hown hK hP 0 rfl rfl 4 (by decide) (hw _ k_60) (fun _ h9 => h9) rfl d_B_part_57 ?_
      refine lv_iload_n hx hb d_B_part_60 rfl (lv_at hl 1 rfl) ?_
      refine va_iald hx hb hK hP 1 0 rfl rfl (vp_in_nI (n := k) (by omega) (by omega)) d_B_part_61 ?_
      refine cx_ti (y := fS k) (by rw [nI_clamp (by omega)]) ?_
      refine lv_i2l (v := (fS k).toInt64) hx hb d_B_part_62 (rfl) ?_
      exact cx_lret hx hb hr hlocks hK hP hD hS d_B_part_63 (by simp only [bd_part, if_pos z_0]) (rfl)
    by_cases z_1 : wh = 1
    · refine lv_tableIn (tgt := 64) (off := 51) hx hb d_B_part_13 (by rw [z_1]; decide) (by rw [z_1]; decide) (by rw [z_1]; rfl) (by decide) ?_
      refine lv_aload_n hx hb d_B_part_64 rfl (lv_at hl 0 rfl) ?_
      refine va_get (D := D) (ci := 1) (v := .ref aA) (C := "BuildDrawer") (T := TB) (N := 14) hx hb hw inB hown hK hP 0 rfl rfl 5 (by decide) (hw _ k_61) (fun _ h9 => h9) rfl d_B_part_65 ?_
      refine lv_iload_n hx hb d_B_part_68 rfl (lv_at hl 1 rfl) ?_
      refine va_iald hx hb hK hP 2 0 rfl rfl (vp_in_nI (n := k) (by omega) (by omega)) d_B_part_69 ?_
      refine cx_ti (y := fA k) (by rw [nI_clamp (by omega)]) ?_
      refine lv_i2l (v := (fA k).toInt64) hx hb d_B_part_70 (rfl) ?_
      exact cx_lret hx hb hr hlocks hK hP hD hS d_B_part_71 (by simp only [bd_part, if_neg z_0, if_pos z_1]) (rfl)
    by_cases z_2 : wh = 2
    · refine lv_tableIn (tgt := 72) (off := 59) hx hb d_B_part_13 (by rw [z_2]; decide) (by rw [z_2]; decide) (by rw [z_2]; rfl) (by decide) ?_
      refine lv_aload_n hx hb d_B_part_72 rfl (lv_at hl 0 rfl) ?_
      refine va_get (D := D) (ci := 1) (v := .ref aB) (C := "BuildDrawer") (T := TB) (N := 14) hx hb hw inB hown hK hP 0 rfl rfl 6 (by decide) (hw _ k_62) (fun _ h9 => h9) rfl d_B_part_73 ?_
      refine lv_iload_n hx hb d_B_part_76 rfl (lv_at hl 1 rfl) ?_
      refine va_iald hx hb hK hP 3 0 rfl rfl (vp_in_nI (n := k) (by omega) (by omega)) d_B_part_77 ?_
      refine cx_ti (y := fB k) (by rw [nI_clamp (by omega)]) ?_
      refine lv_i2l (v := (fB k).toInt64) hx hb d_B_part_78 (rfl) ?_
      exact cx_lret hx hb hr hlocks hK hP hD hS d_B_part_79 (by simp only [bd_part, if_neg z_0, if_neg z_1, if_pos z_2]) (rfl)
    by_cases z_3 : wh = 3
    · refine lv_tableIn (tgt := 80) (off := 67) hx hb d_B_part_13 (by rw [z_3]; decide) (by rw [z_3]; decide) (by rw [z_3]; rfl) (by decide) ?_
      refine lv_aload_n hx hb d_B_part_80 rfl (lv_at hl 0 rfl) ?_
      refine va_get (D := D) (ci := 1) (v := .ref aN) (C := "BuildDrawer") (T := TB) (N := 14) hx hb hw inB hown hK hP 0 rfl rfl 7 (by decide) (hw _ k_63) (fun _ h9 => h9) rfl d_B_part_81 ?_
      refine lv_iload_n hx hb d_B_part_84 rfl (lv_at hl 1 rfl) ?_
      refine va_iald hx hb hK hP 4 0 rfl rfl (vp_in_nI (n := k) (by omega) (by omega)) d_B_part_85 ?_
      refine cx_ti (y := fN k) (by rw [nI_clamp (by omega)]) ?_
      refine lv_i2l (v := (fN k).toInt64) hx hb d_B_part_86 (rfl) ?_
      exact cx_lret hx hb hr hlocks hK hP hD hS d_B_part_87 (by simp only [bd_part, if_neg z_0, if_neg z_1, if_neg z_2, if_pos z_3]) (rfl)
    by_cases z_4 : wh = 4
    · refine lv_tableIn (tgt := 88) (off := 75) hx hb d_B_part_13 (by rw [z_4]; decide) (by rw [z_4]; decide) (by rw [z_4]; rfl) (by decide) ?_
      refine lv_aload_n hx hb d_B_part_88 rfl (lv_at hl 0 rfl) ?_
      refine va_get (D := D) (ci := 1) (v := .ref aM) (C := "BuildDrawer") (T := TB) (N := 14) hx hb hw inB hown hK hP 0 rfl rfl 8 (by decide) (hw _ k_64) (fun _ h9 => h9) rfl d_B_part_89 ?_
      refine lv_iload_n hx hb d_B_part_92 rfl (lv_at hl 1 rfl) ?_
      refine va_iald hx hb hK hP 5 0 rfl rfl (vp_in_nI (n := k) (by omega) (by omega)) d_B_part_93 ?_
      refine cx_ti (y := fM k) (by rw [nI_clamp (by omega)]) ?_
      refine lv_i2l (v := (fM k).toInt64) hx hb d_B_part_94 (rfl) ?_
      exact cx_lret hx hb hr hlocks hK hP hD hS d_B_part_95 (by simp only [bd_part, if_neg z_0, if_neg z_1, if_neg z_2, if_neg z_3, if_pos z_4]) (rfl)
    by_cases z_5 : wh = 5
    · refine lv_tableIn (tgt := 96) (off := 83) hx hb d_B_part_13 (by rw [z_5]; decide) (by rw [z_5]; decide) (by rw [z_5]; rfl) (by decide) ?_
      refine lv_aload_n hx hb d_B_part_96 rfl (lv_at hl 0 rfl) ?_
      refine va_get (D := D) (ci := 1) (v := .ref aL) (C := "BuildDrawer") (T := TB) (N := 14) hx hb hw inB hown hK hP 0 rfl rfl 9 (by decide) (hw _ k_65) (fun _ h9 => h9) rfl d_B_part_97 ?_
      refine lv_iload_n hx hb d_B_part_100 rfl (lv_at hl 1 rfl) ?_
      refine va_zald hx hb hK hP 6 1 rfl rfl (vp_in_nI (n := k) (by omega) (by omega)) d_B_part_101 ?_
      refine cx_ti (y := fL k) (by rw [nI_clamp (by omega)]) ?_
      refine lv_if_eq (tgt := 109) hx hb d_B_part_102 (by decide) (fun r_102 => ?_) (fun r_102 => ?_)
      · have c_102 := r_102
        refine lv_lconst (v := 0) hx hb d_B_part_109 (by decide) ?_
        exact cx_lret hx hb hr hlocks hK hP hD hS d_B_part_110 (by simp only [bd_part, if_neg z_0, if_neg z_1, if_neg z_2, if_neg z_3, if_neg z_4, if_pos z_5, if_pos r_102]) (rfl)
      · have c_102 := r_102
        refine lv_lconst (v := 1) hx hb d_B_part_105 (by decide) ?_
        refine lv_goto (tgt := 110) hx hb d_B_part_106 (by decide) ?_
        exact cx_lret hx hb hr hlocks hK hP hD hS d_B_part_110 (by simp only [bd_part, if_neg z_0, if_neg z_1, if_neg z_2, if_neg z_3, if_neg z_4, if_pos z_5, if_neg r_102]) (rfl)
    by_cases z_6 : wh = 6
    · refine lv_tableIn (tgt := 111) (off := 98) hx hb d_B_part_13 (by rw [z_6]; decide) (by rw [z_6]; decide) (by rw [z_6]; rfl) (by decide) ?_
      refine lv_aload_n hx hb d_B_part_111 rfl (lv_at hl 0 rfl) ?_
      refine cx_ci (wr := [(aA, .inl (K.1, 62, .inl fA)), (aN, .inl (K.1, 62, .inl fN)), (aM, .inl (K.1, 62, .inl fM))]) (wN := [(h0, .inr (1, [.long seed, .ref hM, .ref hO, .int (nI cnt), .ref aS, .ref aA, .ref aB, .ref aN, .ref aM, .ref aL, .int vb, .int vs, .ref aT, .int tl])), (aS, .inl (K.1, 62, .inl fS)), (aA, .inl (K.1, 62, .inl fA)), (aB, .inl (K.1, 62, .inl fB)), (aN, .inl (K.1, 62, .inl fN)), (aM, .inl (K.1, 62, .inl fM)), (aL, .inl (K.2.1, 62, .inl fL))]) (va_runV (As := []) (rest := []) ⟨hx, hb, hml, hown, hw⟩ (c_B_commonSet l G D K H.size h0 seed hM hO cnt aS aA aB aN aM aL vb vs aT tl fL fS fB (by omega)) (cwV 0 hw (cx_gV k_158 k_160 ks_B_commonSet k_1 k_161) rfl rfl rfl (by decide +kernel) ⟨Nat.le_of_ble_eq_true rfl, Nat.le_of_ble_eq_true rfl⟩) (cx_preV (q0 := 0) (ci := 1) hK hP hD hS hA hE rfl rfl [0, 6, 1, 3] rfl rfl (by decide)) rfl rfl hl.1 rfl (lv_room (Nat.le_of_ble_eq_true rfl)) d_B_part_112 ⟨Nat.le_of_ble_eq_true rfl, Nat.le_of_ble_eq_true rfl⟩) hP hD hS hA [0, 6, 1, 3] [2, 4, 5] rfl rfl (by decide) (by decide) [3, 5, 0, 6, 1, 2, 4] rfl rfl (by decide) (fun H locs hP hD hS => ?_)
      refine cx_ci (wr := [(h0, .inr (1, [.long seed, .ref hM, .ref hO, .int (nI cnt), .ref aS, .ref aA, .ref aB, .ref aN, .ref aM, .ref aL, .int vb, .int vs, .ref aT, .int tl])), (aS, .inl (K.1, 62, .inl fS)), (aA, .inl (K.1, 62, .inl fA)), (aB, .inl (K.1, 62, .inl fB)), (aN, .inl (K.1, 62, .inl fN)), (aM, .inl (K.1, 62, .inl fM)), (aL, .inl (K.2.1, 62, .inl fL))]) (wN := [(h0, .inr (1, [.long seed, .ref hM, .ref hO, .int (nI cnt), .ref aS, .ref aA, .ref aB, .ref aN, .ref aM, .ref aL, .int vb, .int vs, .ref aT, .int tl])), (aS, .inl (K.1, 62, .inl fS)), (aA, .inl (K.1, 62, .inl fA)), (aB, .inl (K.1, 62, .inl fB)), (aN, .inl (K.1, 62, .inl fN)), (aM, .inl (K.1, 62, .inl fM)), (aL, .inl (K.2.1, 62, .inl fL))]) (va_runS (As := [.int (bd_cs fL fS fB cnt)]) (rest := []) ⟨hx, hb, hml, hown, hw⟩ (c_I_bitCount l G D K H.size (bd_cs fL fS fB cnt)) (va_cwS 1 hw (cx_gS k_162 k_163 k_4 k_164) rfl rfl rfl (by decide +kernel) ⟨Nat.le_of_ble_eq_true rfl, Nat.le_of_ble_eq_true rfl⟩) (cx_pre hK hP hD hS hA hE [] rfl rfl (by decide)) rfl rfl hl.1 rfl (lv_room (Nat.le_of_ble_eq_true rfl)) d_B_part_115 ⟨Nat.le_of_ble_eq_true rfl, Nat.le_of_ble_eq_true rfl⟩) hP hD hS hA [] [0, 1, 2, 3, 4, 5, 6] rfl rfl (by decide) (by decide) [0, 1, 2, 3, 4, 5, 6] rfl rfl (by decide) (fun H locs hP hD hS => ?_)
      refine lv_i2l (v := (bd_bc (bd_cs fL fS fB cnt)).toInt64) hx hb d_B_part_118 (rfl) ?_
      exact cx_lret hx hb hr hlocks hK hP hD hS d_B_part_119 (by simp only [bd_part, if_neg z_0, if_neg z_1, if_neg z_2, if_neg z_3, if_neg z_4, if_neg z_5, if_pos z_6]) (rfl)
    refine lv_tableOut (tgt := 120) hx hb d_B_part_13 (cx_out7 z_0 z_1 z_2 z_3 z_4 z_5 z_6) (by decide) ?_
    refine lv_ldc2 (v := (-2)) hx hb hown (hw _ k_168) d_B_part_120 ?_
    exact cx_lret hx hb hr hlocks hK hP hD hS d_B_part_123 (by simp only [bd_part, if_neg z_0, if_neg z_1, if_neg z_2, if_neg z_3, if_neg z_4, if_neg z_5, if_neg z_6]) (rfl)
  · have c_5 := r_5
    exact absurd r_5 (by decide)
set_option maxHeartbeats 4000000 in
set_option maxRecDepth 100000 in
theorem c_B_partN (l : Launch) (G : cx_G) (D : va_G) (K : cx_KT) (sz : Nat) (h0 : Nat) (seed : Int64) (hM : Nat) (hO : Nat) (cnt : Nat) (aS : Nat) (aA : Nat) (aB : Nat) (aN : Nat) (aM : Nat) (aL : Nat) (vb : Int32) (vs : Int32) (aT : Nat) (tl : Int32) (i : Int32) (wh : Int32) (hno : bd_ip cnt i = 0) : Met l y_B_part w_B_part ({ frames := 1, cells := 0, slots := 0, locals := 21 }) (cx_Pc G D (cx_ty K) [(h0, .inr (1, [.long seed, .ref hM, .ref hO, .int (nI cnt), .ref aS, .ref aA, .ref aB, .ref aN, .ref aM, .ref aL, .int vb, .int vs, .ref aT, .int tl]))] sz [.ref h0, .int i, .int wh]) (cx_Ql (-1) D (cx_ty K) [(h0, .inr (1, [.long seed, .ref hM, .ref hO, .int (nI cnt), .ref aS, .ref aA, .ref aB, .ref aN, .ref aM, .ref aL, .int vb, .int vs, .ref aT, .int tl]))] (va_A [(h0, .inr (1, [.long seed, .ref hM, .ref hO, .int (nI cnt), .ref aS, .ref aA, .ref aB, .ref aN, .ref aM, .ref aL, .int vb, .int vs, .ref aT, .int tl]))] sz)) 0 0 (va_A [(h0, .inr (1, [.long seed, .ref hM, .ref hO, .int (nI cnt), .ref aS, .ref aA, .ref aB, .ref aN, .ref aM, .ref aL, .int vb, .int vs, .ref aT, .int tl]))] sz) := by
  refine Met.ofW (cc := prog_1_method_3_code) (maxL := 3) (ret := (some .long)) (by decide) rfl ?_
  intro p e s m args below meth c s₁ B hml hv
  obtain ⟨rfl, hsz, hP, hK, hD0, hE⟩ := hv
  have hx := B.exec
  have hb := B.bytes
  have hr := B.returns
  have hts := atoms_spec (ws := w_B_part) B.pre
  have hw : ∀ w ∈ cw, w.before _ s = true := fun w h => hts w (List.mem_cons_of_mem _ h)
  have hown : s.vm.findClass "BuildDrawer" = some m.cls := findClass_of_methodNamed B.named
  have hlocks := B.notSynchronized
  subst hsz
  have hD := hD0.self (sz := s.heap.size)
  generalize hAe : va_A [(h0, .inr (1, [.long seed, .ref hM, .ref hO, .int (nI cnt), .ref aS, .ref aA, .ref aB, .ref aN, .ref aM, .ref aL, .int vb, .int vs, .ref aT, .int tl]))] s.heap.size = A at hD hE ⊢
  have hA : ∀ q : Nat, s.heap.size ≤ q → A q := fun q h => by rw [← hAe]; exact Or.inr h
  have hS : va_S A s.heap s.heap [] := va_S.rf
  have hl := lv_entry ([.ref h0, .int i, .int wh]) (n := 3) (Nat.le_of_ble_eq_true rfl)
  rw [lg_entry_eq]
  generalize (lg_sl ([.ref h0, .int i, .int wh]) ++ List.replicate (3 - (lg_sl ([.ref h0, .int i, .int wh])).length) Slot.unset).toArray = ls at hl ⊢
  have hl : lv_has ls 3 [(0, .ref h0), (1, .int i), (2, .int wh)] := hl
  refine lv_aload_n hx hb d_B_part_0 rfl (lv_at hl 0 rfl) ?_
  refine lv_iload_n hx hb d_B_part_1 rfl (lv_at hl 1 rfl) ?_
  refine cx_ci (wr := []) (wN := [(h0, .inr (1, [.long seed, .ref hM, .ref hO, .int (nI cnt), .ref aS, .ref aA, .ref aB, .ref aN, .ref aM, .ref aL, .int vb, .int vs, .ref aT, .int tl]))]) (va_runV (As := [.int i]) (rest := []) ⟨hx, hb, hml, hown, hw⟩ (c_B_isPart l G D K s.heap.size h0 seed hM hO cnt aS aA aB aN aM aL vb vs aT tl i) (cwV 1 hw (cx_gV k_153 k_155 ks_B_isPart k_1 k_156) rfl rfl rfl (by decide +kernel) ⟨Nat.le_of_ble_eq_true rfl, Nat.le_of_ble_eq_true rfl⟩) (cx_preV (q0 := 0) (ci := 1) hK hP hD hS hA hE rfl rfl [0] rfl rfl (by decide)) rfl rfl hl.1 rfl (lv_room (Nat.le_of_ble_eq_true rfl)) d_B_part_2 ⟨Nat.le_of_ble_eq_true rfl, Nat.le_of_ble_eq_true rfl⟩) hP hD hS hA [0] [] rfl rfl (by decide) (by decide) [0] rfl rfl (by decide) (fun H locs hP hD hS => ?_)
  refine lv_if_ne (tgt := 12) hx hb d_B_part_5 (by decide) (fun r_5 => ?_) (fun r_5 => ?_)
  · have c_5 := r_5
    exact absurd hno r_5
  · have c_5 := r_5
    refine lv_ldc2 (v := (-1)) hx hb hown (hw _ k_157) d_B_part_8 ?_
    exact cx_lret hx hb hr hlocks hK hP hD hS d_B_part_11 (rfl) (rfl)
set_option maxHeartbeats 4000000 in
set_option maxRecDepth 100000 in
theorem c_P_checkIndexA (l : Launch) (G : cx_G) (D : va_G) (K : cx_KT) (sz : Nat) (k : Nat) (n : Nat) (hk : k < n) (hn : n < 100) : Met l y_P_checkIndex w_P_checkIndex ({ frames := 0, cells := 0, slots := 0, locals := 0 }) (cx_Pc G D (cx_ty K) [] sz [.int (nI k), .int (nI n), .null]) (cx_Qi (nI k) D (cx_ty K) [] (va_A [] sz)) 0 0 (va_A [] sz) := by
  refine Met.ofW (cc := prog_9_method_11_code) (maxL := 3) (ret := (some .int)) (by decide) rfl ?_
  intro p e s m args below meth c s₁ B hml hv
  obtain ⟨rfl, hsz, hP, hK, hD0, hE⟩ := hv
  have hx := B.exec
  have hb := B.bytes
  have hr := B.returns
  have hts := atoms_spec (ws := w_P_checkIndex) B.pre
  have hw : ∀ w ∈ cw, w.before _ s = true := fun w h => hts w (List.mem_cons_of_mem _ h)
  have hown : s.vm.findClass "jdk/internal/util/Preconditions" = some m.cls := findClass_of_methodNamed B.named
  have hlocks := B.notSynchronized
  subst hsz
  have hD := hD0.self (sz := s.heap.size)
  generalize hAe : va_A [] s.heap.size = A at hD hE ⊢
  have hA : ∀ q : Nat, s.heap.size ≤ q → A q := fun q h => by rw [← hAe]; exact Or.inr h
  have hS : va_S A s.heap s.heap [] := va_S.rf
  have hl := lv_entry ([.int (nI k), .int (nI n), .null]) (n := 3) (Nat.le_of_ble_eq_true rfl)
  rw [lg_entry_eq]
  generalize (lg_sl ([.int (nI k), .int (nI n), .null]) ++ List.replicate (3 - (lg_sl ([.int (nI k), .int (nI n), .null])).length) Slot.unset).toArray = ls at hl ⊢
  have hl : lv_has ls 3 [(0, .int (nI k)), (1, .int (nI n)), (2, .null)] := hl
  refine lv_iload_n hx hb d_P_checkIndex_0 rfl (lv_at hl 0 rfl) ?_
  refine lv_if_lt (tgt := 9) hx hb d_P_checkIndex_1 (by decide) (fun r_1 => ?_) (fun r_1 => ?_)
  · have c_1 := (nI_ltI (a := k) (b := 0) (by omega) (by omega)).mp r_1
    omega
  · have c_1 := mt (nI_ltI (a := k) (b := 0) (by omega) (by omega)).mpr r_1
    refine lv_iload_n hx hb d_P_checkIndex_4 rfl (lv_at hl 0 rfl) ?_
    refine lv_iload_n hx hb d_P_checkIndex_5 rfl (lv_at hl 1 rfl) ?_
    refine lv_icmp_lt (tgt := 16) hx hb d_P_checkIndex_6 (by decide) (fun r_6 => ?_) (fun r_6 => ?_)
    · have c_6 := (nI_ltI (a := k) (b := n) (by omega) (by omega)).mp r_6
      refine lv_iload_n hx hb d_P_checkIndex_16 rfl (lv_at hl 0 rfl) ?_
      exact cx_iret hx hb hr hlocks hK hP hD hS d_P_checkIndex_17 (rfl) (rfl)
    · have c_6 := mt (nI_ltI (a := k) (b := n) (by omega) (by omega)).mpr r_6
      omega
set_option maxHeartbeats 4000000 in
set_option maxRecDepth 100000 in
theorem c_P_checkIndexB (l : Launch) (G : cx_G) (D : va_G) (K : cx_KT) (sz : Nat) (k : Nat) (n : Nat) (q : Nat) (hk : k < n) (hn : n < 100) : Met l y_P_checkIndex w_P_checkIndex ({ frames := 0, cells := 0, slots := 0, locals := 0 }) (cx_Pc G D (cx_ty K) [] sz [.int (nI k), .int (nI n), .ref q]) (cx_Qi (nI k) D (cx_ty K) [] (va_A [] sz)) 0 0 (va_A [] sz) := by
  refine Met.ofW (cc := prog_9_method_11_code) (maxL := 3) (ret := (some .int)) (by decide) rfl ?_
  intro p e s m args below meth c s₁ B hml hv
  obtain ⟨rfl, hsz, hP, hK, hD0, hE⟩ := hv
  have hx := B.exec
  have hb := B.bytes
  have hr := B.returns
  have hts := atoms_spec (ws := w_P_checkIndex) B.pre
  have hw : ∀ w ∈ cw, w.before _ s = true := fun w h => hts w (List.mem_cons_of_mem _ h)
  have hown : s.vm.findClass "jdk/internal/util/Preconditions" = some m.cls := findClass_of_methodNamed B.named
  have hlocks := B.notSynchronized
  subst hsz
  have hD := hD0.self (sz := s.heap.size)
  generalize hAe : va_A [] s.heap.size = A at hD hE ⊢
  have hA : ∀ q : Nat, s.heap.size ≤ q → A q := fun q h => by rw [← hAe]; exact Or.inr h
  have hS : va_S A s.heap s.heap [] := va_S.rf
  have hl := lv_entry ([.int (nI k), .int (nI n), .ref q]) (n := 3) (Nat.le_of_ble_eq_true rfl)
  rw [lg_entry_eq]
  generalize (lg_sl ([.int (nI k), .int (nI n), .ref q]) ++ List.replicate (3 - (lg_sl ([.int (nI k), .int (nI n), .ref q])).length) Slot.unset).toArray = ls at hl ⊢
  have hl : lv_has ls 3 [(0, .int (nI k)), (1, .int (nI n)), (2, .ref q)] := hl
  refine lv_iload_n hx hb d_P_checkIndex_0 rfl (lv_at hl 0 rfl) ?_
  refine lv_if_lt (tgt := 9) hx hb d_P_checkIndex_1 (by decide) (fun r_1 => ?_) (fun r_1 => ?_)
  · have c_1 := (nI_ltI (a := k) (b := 0) (by omega) (by omega)).mp r_1
    omega
  · have c_1 := mt (nI_ltI (a := k) (b := 0) (by omega) (by omega)).mpr r_1
    refine lv_iload_n hx hb d_P_checkIndex_4 rfl (lv_at hl 0 rfl) ?_
    refine lv_iload_n hx hb d_P_checkIndex_5 rfl (lv_at hl 1 rfl) ?_
    refine lv_icmp_lt (tgt := 16) hx hb d_P_checkIndex_6 (by decide) (fun r_6 => ?_) (fun r_6 => ?_)
    · have c_6 := (nI_ltI (a := k) (b := n) (by omega) (by omega)).mp r_6
      refine lv_iload_n hx hb d_P_checkIndex_16 rfl (lv_at hl 0 rfl) ?_
      exact cx_iret hx hb hr hlocks hK hP hD hS d_P_checkIndex_17 (rfl) (rfl)
    · have c_6 := mt (nI_ltI (a := k) (b := n) (by omega) (by omega)).mpr r_6
      omega
set_option maxHeartbeats 4000000 in
set_option maxRecDepth 100000 in
theorem c_S_checkIndex (l : Launch) (G : cx_G) (D : va_G) (K : cx_KT) (sz : Nat) (k : Nat) (n : Nat) (hk : k < n) (hn : n < 100) : Met l y_S_checkIndex w_S_checkIndex ({ frames := 1, cells := 0, slots := 0, locals := 22 }) (cx_Pc G D (cx_ty K) [] sz [.int (nI k), .int (nI n)]) (cx_Qv D (cx_ty K) [] (va_A [] sz)) 0 0 (va_A [] sz) := by
  refine Met.ofW (cc := prog_6_method_155_code) (maxL := 2) (ret := none) (by decide) rfl ?_
  intro p e s m args below meth c s₁ B hml hv
  obtain ⟨rfl, hsz, hP, hK, hD0, hE⟩ := hv
  have hx := B.exec
  have hb := B.bytes
  have hr := B.returns
  have hts := atoms_spec (ws := w_S_checkIndex) B.pre
  have hw : ∀ w ∈ cw, w.before _ s = true := fun w h => hts w (List.mem_cons_of_mem _ h)
  have hown : s.vm.findClass "java/lang/String" = some m.cls := findClass_of_methodNamed B.named
  have hlocks := B.notSynchronized
  subst hsz
  have hD := hD0.self (sz := s.heap.size)
  generalize hAe : va_A [] s.heap.size = A at hD hE ⊢
  have hA : ∀ q : Nat, s.heap.size ≤ q → A q := fun q h => by rw [← hAe]; exact Or.inr h
  have hS : va_S A s.heap s.heap [] := va_S.rf
  have hl := lv_entry ([.int (nI k), .int (nI n)]) (n := 2) (Nat.le_of_ble_eq_true rfl)
  rw [lg_entry_eq]
  generalize (lg_sl ([.int (nI k), .int (nI n)]) ++ List.replicate (2 - (lg_sl ([.int (nI k), .int (nI n)])).length) Slot.unset).toArray = ls at hl ⊢
  have hl : lv_has ls 2 [(0, .int (nI k)), (1, .int (nI n))] := hl
  refine lv_iload_n hx hb d_S_checkIndex_0 rfl (lv_at hl 0 rfl) ?_
  refine lv_iload_n hx hb d_S_checkIndex_1 rfl (lv_at hl 1 rfl) ?_
  rcases hE.2.2.2.2 with hZ9 | ⟨t9, hZ9⟩
  · refine va_gets hx hb hZ9 hS hown (hw _ k_209) (fun _ h9 => h9) d_S_checkIndex_2 ?_
    refine cx_ci (wr := []) (wN := []) (va_runS (As := [.int (nI k), .int (nI n), .null]) (rest := []) ⟨hx, hb, hml, hown, hw⟩ (c_P_checkIndexA l G D K s.heap.size k n (by omega) (by omega)) (va_cwS 3 hw (cx_gS k_211 k_212 k_7 k_213) rfl rfl rfl (by decide +kernel) ⟨Nat.le_of_ble_eq_true rfl, Nat.le_of_ble_eq_true rfl⟩) (cx_pre hK hP hD hS hA hE [] rfl rfl (by decide)) rfl rfl hl.1 rfl (lv_room (Nat.le_of_ble_eq_true rfl)) d_S_checkIndex_5 ⟨Nat.le_of_ble_eq_true rfl, Nat.le_of_ble_eq_true rfl⟩) hP hD hS hA [] [] rfl rfl (by decide) (by decide) [] rfl rfl (by decide) (fun H locs hP hD hS => ?_)
    refine lv_pop hx hb d_S_checkIndex_8 rfl ?_
    exact cx_vret hx hb hr hlocks hK hP hD hS d_S_checkIndex_9 (rfl)
  · refine va_gets hx hb hZ9 hS hown (hw _ k_209) (fun _ h9 => h9) d_S_checkIndex_2 ?_
    refine cx_ci (wr := []) (wN := []) (va_runS (As := [.int (nI k), .int (nI n), .ref t9]) (rest := []) ⟨hx, hb, hml, hown, hw⟩ (c_P_checkIndexB l G D K s.heap.size k n t9 (by omega) (by omega)) (va_cwS 3 hw (cx_gS k_211 k_212 k_7 k_213) rfl rfl rfl (by decide +kernel) ⟨Nat.le_of_ble_eq_true rfl, Nat.le_of_ble_eq_true rfl⟩) (cx_pre hK hP hD hS hA hE [] rfl rfl (by decide)) rfl rfl hl.1 rfl (lv_room (Nat.le_of_ble_eq_true rfl)) d_S_checkIndex_5 ⟨Nat.le_of_ble_eq_true rfl, Nat.le_of_ble_eq_true rfl⟩) hP hD hS hA [] [] rfl rfl (by decide) (by decide) [] rfl rfl (by decide) (fun H locs hP hD hS => ?_)
    refine lv_pop hx hb d_S_checkIndex_8 rfl ?_
    exact cx_vret hx hb hr hlocks hK hP hD hS d_S_checkIndex_9 (rfl)
set_option maxHeartbeats 4000000 in
set_option maxRecDepth 100000 in
theorem c_S1_charAt (l : Launch) (G : cx_G) (D : va_G) (K : cx_KT) (sz : Nat) (k : Nat) (hk : k < 8) : Met l y_S1_charAt w_S1_charAt ({ frames := 2, cells := 0, slots := 0, locals := 43 }) (cx_Pc G D (cx_ty K) [] sz [.ref G.2.2, .int (nI k)]) (cx_Qi (nI (bd_ltN k)) D (cx_ty K) [] (va_A [] sz)) 0 0 (va_A [] sz) := by
  refine Met.ofW (cc := prog_7_method_2_code) (maxL := 2) (ret := (some .char)) (by decide) rfl ?_
  intro p e s m args below meth c s₁ B hml hv
  obtain ⟨rfl, hsz, hP, hK, hD0, hE⟩ := hv
  have hx := B.exec
  have hb := B.bytes
  have hr := B.returns
  have hts := atoms_spec (ws := w_S1_charAt) B.pre
  have hw : ∀ w ∈ cw, w.before _ s = true := fun w h => hts w (List.mem_cons_of_mem _ h)
  have hown : s.vm.findClass "java/lang/StringLatin1" = some m.cls := findClass_of_methodNamed B.named
  have hlocks := B.notSynchronized
  subst hsz
  have hD := hD0.self (sz := s.heap.size)
  generalize hAe : va_A [] s.heap.size = A at hD hE ⊢
  have hA : ∀ q : Nat, s.heap.size ≤ q → A q := fun q h => by rw [← hAe]; exact Or.inr h
  have hS : va_S A s.heap s.heap [] := va_S.rf
  have hl := lv_entry ([.ref G.2.2, .int (nI k)]) (n := 2) (Nat.le_of_ble_eq_true rfl)
  rw [lg_entry_eq]
  generalize (lg_sl ([.ref G.2.2, .int (nI k)]) ++ List.replicate (2 - (lg_sl ([.ref G.2.2, .int (nI k)])).length) Slot.unset).toArray = ls at hl ⊢
  have hl : lv_has ls 2 [(0, .ref G.2.2), (1, .int (nI k))] := hl
  refine lv_iload_n hx hb d_S1_charAt_0 rfl (lv_at hl 1 rfl) ?_
  refine lv_aload_n hx hb d_S1_charAt_1 rfl (lv_at hl 0 rfl) ?_
  refine va_tlen (v := 8) hx hb hE.2.2.2.1.2.2.2.2 hS rfl d_S1_charAt_2 ?_
  refine cx_cv (wr := []) (wN := []) (va_runS (As := [.int (nI k), .int 8]) (rest := []) ⟨hx, hb, hml, hown, hw⟩ (c_S_checkIndex l G D K s.heap.size k 8 (by omega) (by omega)) (va_cwS 2 hw (cx_gS k_206 k_207 k_5 k_208) rfl rfl rfl (by decide +kernel) ⟨Nat.le_of_ble_eq_true rfl, Nat.le_of_ble_eq_true rfl⟩) (cx_pre hK hP hD hS hA hE [] rfl rfl (by decide)) rfl rfl hl.1 rfl (lv_room (Nat.le_of_ble_eq_true rfl)) d_S1_charAt_3 ⟨Nat.le_of_ble_eq_true rfl, Nat.le_of_ble_eq_true rfl⟩) hP hD hS hA [] [] rfl rfl (by decide) (by decide) [] rfl rfl (by decide) (fun H locs hP hD hS => ?_)
  refine lv_aload_n hx hb d_S1_charAt_6 rfl (lv_at hl 0 rfl) ?_
  refine lv_iload_n hx hb d_S1_charAt_7 rfl (lv_at hl 1 rfl) ?_
  refine va_tb (v := .int (bd_lt k)) hx hb hE.2.2.2.1.2.2.2.2 hS (vp_in_nI (n := k) (by omega) (by omega)) (by rw [nI_clamp (by omega)]) d_S1_charAt_8 ?_
  refine lv_sipush (v := 255) hx hb d_S1_charAt_9 (by decide) ?_
  refine lv_iand hx hb d_S1_charAt_12 ?_
  refine lv_i2c (v := nI (bd_ltN k)) hx hb d_S1_charAt_13 (bd_ltC k hk) ?_
  exact cx_zret hx hb hr hlocks hK hP hD hS d_S1_charAt_14 ((pk_charN (Nat.lt_trans (bd_ltL k hk) (by omega))).1) (rfl) (rfl)
set_option maxHeartbeats 4000000 in
set_option maxRecDepth 100000 in
theorem c_S_coder (l : Launch) (G : cx_G) (D : va_G) (K : cx_KT) (sz : Nat)   : Met l y_S_coder w_S_coder ({ frames := 0, cells := 0, slots := 0, locals := 0 }) (cx_Pc G D (cx_ty K) [] sz [.ref G.2.1]) (cx_Qi 0 D (cx_ty K) [] (va_A [] sz)) 0 0 (va_A [] sz) := by
  refine Met.ofW (cc := prog_6_method_152_code) (maxL := 1) (ret := (some .byte)) (by decide) rfl ?_
  intro p e s m args below meth c s₁ B hml hv
  obtain ⟨rfl, hsz, hP, hK, hD0, hE⟩ := hv
  have hx := B.exec
  have hb := B.bytes
  have hr := B.returns
  have hts := atoms_spec (ws := w_S_coder) B.pre
  have hw : ∀ w ∈ cw, w.before _ s = true := fun w h => hts w (List.mem_cons_of_mem _ h)
  have hown : s.vm.findClass "java/lang/String" = some m.cls := findClass_of_methodNamed B.named
  have hlocks := B.notSynchronized
  subst hsz
  have hD := hD0.self (sz := s.heap.size)
  generalize hAe : va_A [] s.heap.size = A at hD hE ⊢
  have hA : ∀ q : Nat, s.heap.size ≤ q → A q := fun q h => by rw [← hAe]; exact Or.inr h
  have hS : va_S A s.heap s.heap [] := va_S.rf
  have hl := lv_entry ([.ref G.2.1]) (n := 1) (Nat.le_of_ble_eq_true rfl)
  rw [lg_entry_eq]
  generalize (lg_sl ([.ref G.2.1]) ++ List.replicate (1 - (lg_sl ([.ref G.2.1])).length) Slot.unset).toArray = ls at hl ⊢
  have hl : lv_has ls 1 [(0, .ref G.2.1)] := hl
  refine va_gets hx hb hE.2.2.1 hS hown (hw _ k_193) (fun _ h9 => h9) d_S_coder_0 ?_
  refine lv_if_eq (tgt := 13) hx hb d_S_coder_3 (by decide) (fun r_3 => ?_) (fun r_3 => ?_)
  · have c_3 := r_3
    exact absurd r_3 (by decide)
  · have c_3 := r_3
    refine lv_aload_n hx hb d_S_coder_6 rfl (lv_at hl 0 rfl) ?_
    refine vk_getf hx hb hE.2.2.2.1.2.2.1 hS hown (hw _ k_436) (fun _ h9 => h9) d_S_coder_7 ?_
    refine lv_goto (tgt := 14) hx hb d_S_coder_10 (by decide) ?_
    exact cx_zret hx hb hr hlocks hK hP hD hS d_S_coder_14 (rfl) (rfl) (rfl)
set_option maxHeartbeats 4000000 in
set_option maxRecDepth 100000 in
theorem c_S_isLatin1 (l : Launch) (G : cx_G) (D : va_G) (K : cx_KT) (sz : Nat)   : Met l y_S_isLatin1 w_S_isLatin1 ({ frames := 0, cells := 0, slots := 0, locals := 0 }) (cx_Pc G D (cx_ty K) [] sz [.ref G.2.1]) (cx_Qi 1 D (cx_ty K) [] (va_A [] sz)) 0 0 (va_A [] sz) := by
  refine Met.ofW (cc := prog_6_method_154_code) (maxL := 1) (ret := (some .boolean)) (by decide) rfl ?_
  intro p e s m args below meth c s₁ B hml hv
  obtain ⟨rfl, hsz, hP, hK, hD0, hE⟩ := hv
  have hx := B.exec
  have hb := B.bytes
  have hr := B.returns
  have hts := atoms_spec (ws := w_S_isLatin1) B.pre
  have hw : ∀ w ∈ cw, w.before _ s = true := fun w h => hts w (List.mem_cons_of_mem _ h)
  have hown : s.vm.findClass "java/lang/String" = some m.cls := findClass_of_methodNamed B.named
  have hlocks := B.notSynchronized
  subst hsz
  have hD := hD0.self (sz := s.heap.size)
  generalize hAe : va_A [] s.heap.size = A at hD hE ⊢
  have hA : ∀ q : Nat, s.heap.size ≤ q → A q := fun q h => by rw [← hAe]; exact Or.inr h
  have hS : va_S A s.heap s.heap [] := va_S.rf
  have hl := lv_entry ([.ref G.2.1]) (n := 1) (Nat.le_of_ble_eq_true rfl)
  rw [lg_entry_eq]
  generalize (lg_sl ([.ref G.2.1]) ++ List.replicate (1 - (lg_sl ([.ref G.2.1])).length) Slot.unset).toArray = ls at hl ⊢
  have hl : lv_has ls 1 [(0, .ref G.2.1)] := hl
  refine va_gets hx hb hE.2.2.1 hS hown (hw _ k_193) (fun _ h9 => h9) d_S_isLatin1_0 ?_
  refine lv_if_eq (tgt := 17) hx hb d_S_isLatin1_3 (by decide) (fun r_3 => ?_) (fun r_3 => ?_)
  · have c_3 := r_3
    exact absurd r_3 (by decide)
  · have c_3 := r_3
    refine lv_aload_n hx hb d_S_isLatin1_6 rfl (lv_at hl 0 rfl) ?_
    refine vk_getf hx hb hE.2.2.2.1.2.2.1 hS hown (hw _ k_436) (fun _ h9 => h9) d_S_isLatin1_7 ?_
    refine lv_if_ne (tgt := 17) hx hb d_S_isLatin1_10 (by decide) (fun r_10 => ?_) (fun r_10 => ?_)
    · have c_10 := r_10
      exact absurd rfl r_10
    · have c_10 := r_10
      refine lv_iconst (v := 1) hx hb d_S_isLatin1_13 (by decide) ?_
      refine lv_goto (tgt := 18) hx hb d_S_isLatin1_14 (by decide) ?_
      exact cx_zret hx hb hr hlocks hK hP hD hS d_S_isLatin1_18 (rfl) (rfl) (rfl)
set_option maxHeartbeats 4000000 in
set_option maxRecDepth 100000 in
theorem c_S_length (l : Launch) (G : cx_G) (D : va_G) (K : cx_KT) (sz : Nat)   : Met l y_S_length w_S_length ({ frames := 1, cells := 0, slots := 0, locals := 20 }) (cx_Pc G D (cx_ty K) [] sz [.ref G.2.1]) (cx_Qi 8 D (cx_ty K) [] (va_A [] sz)) 0 0 (va_A [] sz) := by
  refine Met.ofW (cc := prog_6_method_54_code) (maxL := 1) (ret := (some .int)) (by decide) rfl ?_
  intro p e s m args below meth c s₁ B hml hv
  obtain ⟨rfl, hsz, hP, hK, hD0, hE⟩ := hv
  have hx := B.exec
  have hb := B.bytes
  have hr := B.returns
  have hts := atoms_spec (ws := w_S_length) B.pre
  have hw : ∀ w ∈ cw, w.before _ s = true := fun w h => hts w (List.mem_cons_of_mem _ h)
  have hown : s.vm.findClass "java/lang/String" = some m.cls := findClass_of_methodNamed B.named
  have hlocks := B.notSynchronized
  subst hsz
  have hD := hD0.self (sz := s.heap.size)
  generalize hAe : va_A [] s.heap.size = A at hD hE ⊢
  have hA : ∀ q : Nat, s.heap.size ≤ q → A q := fun q h => by rw [← hAe]; exact Or.inr h
  have hS : va_S A s.heap s.heap [] := va_S.rf
  have hl := lv_entry ([.ref G.2.1]) (n := 1) (Nat.le_of_ble_eq_true rfl)
  rw [lg_entry_eq]
  generalize (lg_sl ([.ref G.2.1]) ++ List.replicate (1 - (lg_sl ([.ref G.2.1])).length) Slot.unset).toArray = ls at hl ⊢
  have hl : lv_has ls 1 [(0, .ref G.2.1)] := hl
  refine lv_aload_n hx hb d_S_length_0 rfl (lv_at hl 0 rfl) ?_
  refine vk_getf hx hb hE.2.2.2.1.2.2.2.1 hS hown (hw _ k_435) (fun _ h9 => h9) d_S_length_1 ?_
  refine va_tlen (v := 8) hx hb hE.2.2.2.1.2.2.2.2 hS rfl d_S_length_4 ?_
  refine lv_aload_n hx hb d_S_length_5 rfl (lv_at hl 0 rfl) ?_
  refine cx_ci (wr := []) (wN := []) (va_runV (As := []) (rest := [.int 8]) ⟨hx, hb, hml, hown, hw⟩ (c_S_coder l G D K s.heap.size ) (cwV 0 hw (cx_gV k_189 k_190 k_191 k_5 k_192) rfl rfl rfl (by decide +kernel) ⟨Nat.le_of_ble_eq_true rfl, Nat.le_of_ble_eq_true rfl⟩) (cx_preS hK hP hD hS hA hE [] rfl rfl (by decide)) rfl rfl hl.1 rfl (lv_room (Nat.le_of_ble_eq_true rfl)) d_S_length_6 ⟨Nat.le_of_ble_eq_true rfl, Nat.le_of_ble_eq_true rfl⟩) hP hD hS hA [] [] rfl rfl (by decide) (by decide) [] rfl rfl (by decide) (fun H locs hP hD hS => ?_)
  refine lv_ishr hx hb d_S_length_9 ?_
  refine cx_ti (y := 8) (by decide) ?_
  exact cx_iret hx hb hr hlocks hK hP hD hS d_S_length_10 (rfl) (rfl)
set_option maxHeartbeats 4000000 in
set_option maxRecDepth 100000 in
theorem c_S_charAt (l : Launch) (G : cx_G) (D : va_G) (K : cx_KT) (sz : Nat) (k : Nat) (hk : k < 8) : Met l y_S_charAt w_S_charAt ({ frames := 3, cells := 0, slots := 0, locals := 64 }) (cx_Pc G D (cx_ty K) [] sz [.ref G.2.1, .int (nI k)]) (cx_Qi (nI (bd_ltN k)) D (cx_ty K) [] (va_A [] sz)) 0 0 (va_A [] sz) := by
  refine Met.ofW (cc := prog_6_method_56_code) (maxL := 2) (ret := (some .char)) (by decide) rfl ?_
  intro p e s m args below meth c s₁ B hml hv
  obtain ⟨rfl, hsz, hP, hK, hD0, hE⟩ := hv
  have hx := B.exec
  have hb := B.bytes
  have hr := B.returns
  have hts := atoms_spec (ws := w_S_charAt) B.pre
  have hw : ∀ w ∈ cw, w.before _ s = true := fun w h => hts w (List.mem_cons_of_mem _ h)
  have hown : s.vm.findClass "java/lang/String" = some m.cls := findClass_of_methodNamed B.named
  have hlocks := B.notSynchronized
  subst hsz
  have hD := hD0.self (sz := s.heap.size)
  generalize hAe : va_A [] s.heap.size = A at hD hE ⊢
  have hA : ∀ q : Nat, s.heap.size ≤ q → A q := fun q h => by rw [← hAe]; exact Or.inr h
  have hS : va_S A s.heap s.heap [] := va_S.rf
  have hl := lv_entry ([.ref G.2.1, .int (nI k)]) (n := 2) (Nat.le_of_ble_eq_true rfl)
  rw [lg_entry_eq]
  generalize (lg_sl ([.ref G.2.1, .int (nI k)]) ++ List.replicate (2 - (lg_sl ([.ref G.2.1, .int (nI k)])).length) Slot.unset).toArray = ls at hl ⊢
  have hl : lv_has ls 2 [(0, .ref G.2.1), (1, .int (nI k))] := hl
  refine lv_aload_n hx hb d_S_charAt_0 rfl (lv_at hl 0 rfl) ?_
  refine cx_ci (wr := []) (wN := []) (va_runV (As := []) (rest := []) ⟨hx, hb, hml, hown, hw⟩ (c_S_isLatin1 l G D K s.heap.size ) (cwV 0 hw (cx_gV k_199 k_200 k_201 k_5 k_202) rfl rfl rfl (by decide +kernel) ⟨Nat.le_of_ble_eq_true rfl, Nat.le_of_ble_eq_true rfl⟩) (cx_preS hK hP hD hS hA hE [] rfl rfl (by decide)) rfl rfl hl.1 rfl (lv_room (Nat.le_of_ble_eq_true rfl)) d_S_charAt_1 ⟨Nat.le_of_ble_eq_true rfl, Nat.le_of_ble_eq_true rfl⟩) hP hD hS hA [] [] rfl rfl (by decide) (by decide) [] rfl rfl (by decide) (fun H locs hP hD hS => ?_)
  refine lv_if_eq (tgt := 16) hx hb d_S_charAt_4 (by decide) (fun r_4 => ?_) (fun r_4 => ?_)
  · have c_4 := r_4
    exact absurd r_4 (by decide)
  · have c_4 := r_4
    refine lv_aload_n hx hb d_S_charAt_7 rfl (lv_at hl 0 rfl) ?_
    refine vk_getf hx hb hE.2.2.2.1.2.2.2.1 hS hown (hw _ k_435) (fun _ h9 => h9) d_S_charAt_8 ?_
    refine lv_iload_n hx hb d_S_charAt_11 rfl (lv_at hl 1 rfl) ?_
    refine cx_ci (wr := []) (wN := []) (va_runS (As := [.ref G.2.2, .int (nI k)]) (rest := []) ⟨hx, hb, hml, hown, hw⟩ (c_S1_charAt l G D K H.size k (by omega)) (va_cwS 2 hw (cx_gS k_203 k_204 k_6 k_205) rfl rfl rfl (by decide +kernel) ⟨Nat.le_of_ble_eq_true rfl, Nat.le_of_ble_eq_true rfl⟩) (cx_pre hK hP hD hS hA hE [] rfl rfl (by decide)) rfl rfl hl.1 rfl (lv_room (Nat.le_of_ble_eq_true rfl)) d_S_charAt_12 ⟨Nat.le_of_ble_eq_true rfl, Nat.le_of_ble_eq_true rfl⟩) hP hD hS hA [] [] rfl rfl (by decide) (by decide) [] rfl rfl (by decide) (fun H locs hP hD hS => ?_)
    exact cx_zret hx hb hr hlocks hK hP hD hS d_S_charAt_15 ((pk_charN (Nat.lt_trans (bd_ltL k hk) (by omega))).1) (rfl) (rfl)
set_option maxHeartbeats 4000000 in
set_option maxRecDepth 100000 in
theorem c_B_letterOf (l : Launch) (G : cx_G) (D : va_G) (K : cx_KT) (sz : Nat) (k : Nat) (hk : k < 8) : Met l y_B_letterOf w_B_letterOf ({ frames := 4, cells := 0, slots := 0, locals := 85 }) (cx_Pc G D (cx_ty K) [] sz [.int (nI k)]) (cx_Qi (nI (bd_ltN k)) D (cx_ty K) [] (va_A [] sz)) 0 0 (va_A [] sz) := by
  refine Met.ofW (cc := prog_1_method_22_code) (maxL := 1) (ret := (some .char)) (by decide) rfl ?_
  intro p e s m args below meth c s₁ B hml hv
  obtain ⟨rfl, hsz, hP, hK, hD0, hE⟩ := hv
  have hx := B.exec
  have hb := B.bytes
  have hr := B.returns
  have hts := atoms_spec (ws := w_B_letterOf) B.pre
  have hw : ∀ w ∈ cw, w.before _ s = true := fun w h => hts w (List.mem_cons_of_mem _ h)
  have hown : s.vm.findClass "BuildDrawer" = some m.cls := findClass_of_methodNamed B.named
  have hlocks := B.notSynchronized
  subst hsz
  have hD := hD0.self (sz := s.heap.size)
  generalize hAe : va_A [] s.heap.size = A at hD hE ⊢
  have hA : ∀ q : Nat, s.heap.size ≤ q → A q := fun q h => by rw [← hAe]; exact Or.inr h
  have hS : va_S A s.heap s.heap [] := va_S.rf
  have hl := lv_entry ([.int (nI k)]) (n := 1) (Nat.le_of_ble_eq_true rfl)
  rw [lg_entry_eq]
  generalize (lg_sl ([.int (nI k)]) ++ List.replicate (1 - (lg_sl ([.int (nI k)])).length) Slot.unset).toArray = ls at hl ⊢
  have hl : lv_has ls 1 [(0, .int (nI k))] := hl
  refine lv_iload_n hx hb d_B_letterOf_0 rfl (lv_at hl 0 rfl) ?_
  refine lv_if_lt (tgt := 22) hx hb d_B_letterOf_1 (by decide) (fun r_1 => ?_) (fun r_1 => ?_)
  · have c_1 := (nI_ltI (a := k) (b := 0) (by omega) (by omega)).mp r_1
    omega
  · have c_1 := mt (nI_ltI (a := k) (b := 0) (by omega) (by omega)).mpr r_1
    refine lv_iload_n hx hb d_B_letterOf_4 rfl (lv_at hl 0 rfl) ?_
    refine va_ldcS hx hb hown hE.2.2.2.1.1 d_B_letterOf_5 ?_
    refine cx_ci (wr := []) (wN := []) (va_runV (As := []) (rest := [.int (nI k)]) ⟨hx, hb, hml, hown, hw⟩ (c_S_length l G D K s.heap.size ) (cwV 0 hw (cx_gV k_185 k_186 k_187 k_5 k_188) rfl rfl rfl (by decide +kernel) ⟨Nat.le_of_ble_eq_true rfl, Nat.le_of_ble_eq_true rfl⟩) (cx_preS hK hP hD hS hA hE [] rfl rfl (by decide)) rfl rfl hl.1 rfl (lv_room (Nat.le_of_ble_eq_true rfl)) d_B_letterOf_7 ⟨Nat.le_of_ble_eq_true rfl, Nat.le_of_ble_eq_true rfl⟩) hP hD hS hA [] [] rfl rfl (by decide) (by decide) [] rfl rfl (by decide) (fun H locs hP hD hS => ?_)
    refine lv_icmp_ge (tgt := 22) hx hb d_B_letterOf_10 (by decide) (fun r_10 => ?_) (fun r_10 => ?_)
    · have c_10 := (nI_leI (a := 8) (b := k) (by omega) (by omega)).mp r_10
      omega
    · have c_10 := mt (nI_leI (a := 8) (b := k) (by omega) (by omega)).mpr r_10
      refine va_ldcS hx hb hown hE.2.2.2.1.1 d_B_letterOf_13 ?_
      refine lv_iload_n hx hb d_B_letterOf_15 rfl (lv_at hl 0 rfl) ?_
      refine cx_ci (wr := []) (wN := []) (va_runV (As := [.int (nI k)]) (rest := []) ⟨hx, hb, hml, hown, hw⟩ (c_S_charAt l G D K H.size k (by omega)) (cwV 1 hw (cx_gV k_195 k_196 k_197 k_5 k_198) rfl rfl rfl (by decide +kernel) ⟨Nat.le_of_ble_eq_true rfl, Nat.le_of_ble_eq_true rfl⟩) (cx_preS hK hP hD hS hA hE [] rfl rfl (by decide)) rfl rfl hl.1 rfl (lv_room (Nat.le_of_ble_eq_true rfl)) d_B_letterOf_16 ⟨Nat.le_of_ble_eq_true rfl, Nat.le_of_ble_eq_true rfl⟩) hP hD hS hA [] [] rfl rfl (by decide) (by decide) [] rfl rfl (by decide) (fun H locs hP hD hS => ?_)
      refine lv_goto (tgt := 24) hx hb d_B_letterOf_19 (by decide) ?_
      exact cx_zret hx hb hr hlocks hK hP hD hS d_B_letterOf_24 ((pk_charN (Nat.lt_trans (bd_ltL k hk) (by omega))).1) (rfl) (rfl)
