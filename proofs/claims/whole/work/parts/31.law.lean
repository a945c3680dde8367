/-! THE CLAIM OUT OF ONE WALK OF THE LAW'S BODY. Your part is whole_start (and what it stands on); all else here is the same for every law, but numbers. -/
def R_law : String := "BuildDrawerLaw"
def lw_P (b : Addr) (xs : List Int32) (args : Array Value) (s : State) : Prop := args = #[.ref b] ∧ s.IntsAt b xs ∧ xs.length ≤ 2561 ∧ (Jvm.Cond.and given_1 narrow_1).before args s = true
def lw_Q (_ : Array Value) (s : State) (o : Outcome) (t : State) : Prop := o = .returned (some (.int 1)) ∧ Framed s o t [] 17 2094
def lw_Z (below : List Frame) (a : Array Value) (s : State) : State → Prop := fun t => ∃ o, t.status = .running ∧ Ended t below o ∧ lw_Q a s o t
/-- the law's own end, with 1 on the stack, nothing written that was there before, its room as the claim has it -/
theorem lw_ret {p : Program} {l : Launch} {e : Env} {s : State} {m : MethodId} {below : List Frame} {meth : Method} {c : Code} {b : Nat} (hx : p.tables.exec = Jvm.exec) (hb : c.code = code) (hr : meth.sig.returnType = ret) (hlocks : meth.locks = false) {pc : Nat} {H : Heap} {ls : Array Slot} (hdg : decode code pc = .ok (.ireturn, 1)) : W p l e room_1 s m #[Value.ref b] below meth c H [] 17 2094 (lw_Z below #[Value.ref b] s) (F0 m pc ls [.int 1]) := by
  intro T hT X
  obtain ⟨fs, hret, hrun, hended, hW, hframe⟩ := X.leave (v := some (.int 1)) (hlocks := hlocks) (fun h => by rw [hr] at h; cases h)
  have hmeth' : T.vm.method? m = some meth := X.method'
  refine ⟨T.setFrames fs, ?_, .returned (some (.int 1)), hrun, hended, rfl, ⟨_, rfl⟩, hW, hframe⟩
  jvm_step X.here [X.here.top, hx, hb, hdg, hmeth', hr, ret, narrow_b1]
  (try refine ⟨rfl, ?_⟩); (try refine ⟨rfl, ?_⟩)
  first | (intro acts; rw [hret _ acts rfl rfl rfl]) | rw [hret _ _ rfl rfl rfl]
  exact Steps.refl _
/-- what holds at the law's entry: the machine, the code, the tables' words (any of lw_tbl by 'hts w (by decide +kernel)'), the script of L ints xs at the cell b, what the Statement gives of the start (any of its parts by flat_of_before) -/
def lw_At (p : Program) (s : State) (m : MethodId) (meth : Method) (c : Code) (b L : Nat) (xs : Nat → Int32) : Prop :=
  p.tables.exec = Jvm.exec ∧ c.code = code ∧ meth.sig.returnType = ret ∧ c.maxLocals = 4 ∧ s.vm.findClass R_law = some m.cls ∧ (∀ w ∈ lw_tbl, w.before #[Value.ref b] s = true) ∧ va_X b L xs s s.heap ∧ b < s.heap.size ∧ meth.locks = false ∧ (Jvm.Cond.and given_1 narrow_1).before #[Value.ref b] s = true

/-- the two objects stand beside each other, and hold the same -/
def lw_I (D : va_G) (K : cx_KT) (A : Nat → Prop) (seed : Int64) (x xM xO xS xA xB xN xK xL xT y yS yA yB yN yK yL : Nat) (H : Heap) : Prop :=
  ∃ (cnt : Nat) (vb : Int32) (vs : Int32) (tl : Int32) (w : Int64) (sk : Int32) (pb : Int32) (nu : Int32) (so : Int32) (fa : Int32) (fb : Int32) (ne : Int32) (mk : Int32) (w2 : Int64) (sk2 : Int32) (pb2 : Int32) (nu2 : Int32) (so2 : Int32) (fa2 : Int32) (fb2 : Int32) (ne2 : Int32) (mk2 : Int32) (fS : Nat → Int32) (fA : Nat → Int32) (fB : Nat → Int32) (fN : Nat → Int32) (fM : Nat → Int32) (fL : Nat → Int32) (fT : Nat → Int32) (cd : Int32) (mw : Int64) (pl : Int32) (wa : Int32) (fo : Int32) (se : Int32) (gS : Nat → Int32) (gA : Nat → Int32) (gB : Nat → Int32) (gN : Nat → Int32) (gM : Nat → Int32) (gL : Nat → Int32), lw_R cnt vs tl fS fA fB fN fM fL fT gS gA gB gN gM gL ∧ va_P D vwCl [(x, .inr (1, [.long seed, .ref xM, .ref xO, .int (nI cnt), .ref xS, .ref xA, .ref xB, .ref xN, .ref xK, .ref xL, .int vb, .int vs, .ref xT, .int tl])), (xM, .inr (0, [.long w, .int sk, .int pb, .int nu, .int so, .int fa, .int fb, .int ne, .int mk])), (xO, .inr (0, [.long w2, .int sk2, .int pb2, .int nu2, .int so2, .int fa2, .int fb2, .int ne2, .int mk2])), (xS, .inl (K.1, 62, .inl fS)), (xA, .inl (K.1, 62, .inl fA)), (xB, .inl (K.1, 62, .inl fB)), (xN, .inl (K.1, 62, .inl fN)), (xK, .inl (K.1, 62, .inl fM)), (xL, .inl (K.2.1, 62, .inl fL)), (xT, .inl (K.2.2, 992, .inl fT)), (y, .inr (2, [.int cd, .long seed, .long mw, .int (nI cnt), .int vb, .int pl, .int vs, .ref yS, .ref yA, .ref yB, .ref yN, .ref yK, .ref yL, .int wa, .int fo, .int se])), (yS, .inl (K.1, 124, .inl gS)), (yA, .inl (K.1, 124, .inl gA)), (yB, .inl (K.1, 124, .inl gB)), (yN, .inl (K.1, 124, .inl gN)), (yK, .inl (K.1, 124, .inl gM)), (yL, .inl (K.2.1, 62, .inl gL))] H ∧ va_D A [(x, .inr (1, [.long seed, .ref xM, .ref xO, .int (nI cnt), .ref xS, .ref xA, .ref xB, .ref xN, .ref xK, .ref xL, .int vb, .int vs, .ref xT, .int tl])), (xM, .inr (0, [.long w, .int sk, .int pb, .int nu, .int so, .int fa, .int fb, .int ne, .int mk])), (xO, .inr (0, [.long w2, .int sk2, .int pb2, .int nu2, .int so2, .int fa2, .int fb2, .int ne2, .int mk2])), (xS, .inl (K.1, 62, .inl fS)), (xA, .inl (K.1, 62, .inl fA)), (xB, .inl (K.1, 62, .inl fB)), (xN, .inl (K.1, 62, .inl fN)), (xK, .inl (K.1, 62, .inl fM)), (xL, .inl (K.2.1, 62, .inl fL)), (xT, .inl (K.2.2, 992, .inl fT)), (y, .inr (2, [.int cd, .long seed, .long mw, .int (nI cnt), .int vb, .int pl, .int vs, .ref yS, .ref yA, .ref yB, .ref yN, .ref yK, .ref yL, .int wa, .int fo, .int se])), (yS, .inl (K.1, 124, .inl gS)), (yA, .inl (K.1, 124, .inl gA)), (yB, .inl (K.1, 124, .inl gB)), (yN, .inl (K.1, 124, .inl gN)), (yK, .inl (K.1, 124, .inl gM)), (yL, .inl (K.2.1, 62, .inl gL))]
def bd_cell (L : Nat) (xs : Nat → Int32) : Int32 := if 0 < L then xs 0 else 0
def lw_ot (a b : Int32) : Int64 := (a.toInt64 <<< ((32 : Int32).toInt64 &&& 63)) ||| (b.toInt64 &&& 4294967295)
theorem lw_cmp {L i : Nat} (hL : L ≤ 2561) (hi : i ≤ L + 5) : nI L - 5 < nI i ↔ L < i + 5 := by
  rw [Int32.lt_iff_toInt_lt, show nI L - 5 = nI L - nI 5 from rfl, pk_sub_toInt (by omega) (by omega), nI_toInt (by omega)]
  omega
theorem lw_lcmp (x : Int64) : lg_cmp x x = 0 := by
  simp [lg_cmp]
section CXL
variable {p : Program} {l : Launch} {e : Env} {R : Room} {s : State} {m : MethodId} {args : Array Value} {below : List Frame} {meth : Method} {c : Code} {H : Heap} {locs : List Loc} {cells slots : Nat} {Q : State → Prop}
variable {cc : ByteArray} {pc : Nat} {ls : Array Slot} {rest st0 : List Value} {D : va_G} {A : Nat → Prop} {tys : List (ClassId × FieldType)} {ws wc wr : va_W} {a : Array Value} {mc ms : Nat}
theorem cx_cx {r0 : Int32} {w1 wN : (Nat → Int64) → (Nat → Int32) → va_W} (hr : va_Run p l e R s m args below meth c H locs cells slots mc ms (F0 m pc ls st0) rest (cx_Qx r0 D tys w1 (va_A wc H.size) a) (va_A wc H.size)) (hP : va_P D vwCl ws H) (hD : va_D A ws) (hS : va_S A s.heap H locs) (hA : ∀ q, s.heap.size ≤ q → A q) (isC isR : List Nat) (hC : isC.map (fun i => ws[i]?) = wc.map some) (hR : isR.map (fun i => ws[i]?) = wr.map some) (hn : va_nd isR = true) (hdis : ∀ i ∈ isR, i ∉ isC) (pm : List Nat) (hp1 : ∀ u1 u2, pm.filterMap (fun i => (wr ++ w1 u1 u2)[i]?) = wN u1 u2) (hp2 : ∀ u1 u2, pm.map (fun i => (wr ++ w1 u1 u2)[i]?) = (wN u1 u2).map some) (hpn : va_nd pm = true)
    (kk : ∀ (u1 : Nat → Int64) (u2 : Nat → Int32) (H1 : Heap) (locs1 : List Loc), va_P D vwCl (wN u1 u2) H1 → va_D A (wN u1 u2) → va_S A s.heap H1 locs1 → W p l e R s m args below meth c H1 locs1 (cells + mc) (slots + ms) Q (F0 m (pc + 3) ls (.int r0 :: rest))) : W p l e R s m args below meth c H locs cells slots Q (F0 m pc ls st0) := by
  have hF := va_free (wc := wc) hD hS hA isC hC
  refine va_calli hr hS (fun q _ h => hF q h) hF (fun r u t H1 locs1 ht hvm hw hB hz hk hS1 => ?_)
  obtain ⟨hP1, hK1, hD1⟩ := hB
  rw [ht] at hP1
  obtain ⟨hP2, hD2⟩ := va_join hP hD isC isR hC hR hn hdis hk hF hP1 hD1
  obtain ⟨hP3, hD3⟩ := cx_perm hP2 hD2 pm (hp1 u.1 u.2) (hp2 u.1 u.2) hpn
  rw [hw]
  exact kk u.1 u.2 H1 locs1 hP3 hD3 hS1
theorem cx_cu {w1 : (Nat → Nat) → va_W} (hr : va_Run p l e R s m args below meth c H locs cells slots mc ms (F0 m pc ls st0) rest (cx_Qu D tys w1 (va_A wc H.size) a) (va_A wc H.size)) (hP : va_P D vwCl ws H) (hD : va_D A ws) (hS : va_S A s.heap H locs) (hA : ∀ q, s.heap.size ≤ q → A q) (isC isR : List Nat) (hC : isC.map (fun i => ws[i]?) = wc.map some) (hR : isR.map (fun i => ws[i]?) = wr.map some) (hn : va_nd isR = true) (hdis : ∀ i ∈ isR, i ∉ isC)
    (kk : ∀ (u : Nat → Nat) (H1 : Heap) (locs1 : List Loc), va_P D vwCl (wr ++ w1 u) H1 → va_D A (wr ++ w1 u) → va_S A s.heap H1 locs1 → W p l e R s m args below meth c H1 locs1 (cells + mc) (slots + ms) Q (F0 m (pc + 3) ls rest)) : W p l e R s m args below meth c H locs cells slots Q (F0 m pc ls st0) := by
  have hF := va_free (wc := wc) hD hS hA isC hC
  refine va_callv hr hS (fun q _ h => hF q h) hF (fun u t H1 locs1 ht hvm hw hB hz hk hS1 => ?_)
  obtain ⟨hP1, hK1, hD1⟩ := hB
  rw [ht] at hP1
  obtain ⟨hP2, hD2⟩ := va_join hP hD isC isR hC hR hn hdis hk hF hP1 hD1
  exact kk u H1 locs1 hP2 hD2 hS1
/-- cell's start: the script's own cell -/
def cx_PcX (D : va_G) (tys : List (ClassId × FieldType)) (sz b L : Nat) (xs : Nat → Int32) : Array Value → State → Prop := va_Pc [.ref b, .int 0] (fun U => U.heap.size = sz ∧ va_K D vwCl tys U ∧ va_X b L xs U U.heap ∧ b < sz)
theorem cx_preX {b L : Nat} {xs : Nat → Int32} (hK : va_K D vwCl tys s) (hX : va_X b L xs s s.heap) (hbl : b < s.heap.size) (hbA : ¬ A b) (hS : va_S A s.heap H locs) : PreS s H (cx_PcX D tys H.size b L xs) [.ref b, .int 0] := by
  refine ⟨fun a U g mk q => ?_, fun U hU hW => ⟨rfl, by rw [hU], va_K.moved hW.alike hK, ?_, Nat.lt_of_lt_of_le hbl hS.1⟩⟩
  · obtain ⟨q0, q1, q2, q3, q4⟩ := q
    exact ⟨q0, q1, va_K.moved (u := U) (U := U.calling g mk a) (Vm.Alike.refl U.vm) q2, va_X.moved (u := U) (U := U.calling g mk a) (Vm.Alike.refl U.vm) q3, q4⟩
  · rw [hU]
    exact (va_X.moved hW.alike hX).kept (hS.2.1 b hbl hbA)
end CXL
set_option maxHeartbeats 4000000 in
set_option maxRecDepth 100000 in
/-- cell(script, 0) -/
theorem c_L_cell (l : Launch) (D : va_G) (K : cx_KT) (sz b L : Nat) (xs : Nat → Int32) (hL : L ≤ 2561) : Met l y_L_cell w_L_cell ({ frames := 0, cells := 0, slots := 0, locals := 0 }) (cx_PcX D (cx_ty K) sz b L xs) (cx_Qi (bd_cell L xs) D (cx_ty K) [] (va_A [] sz)) 0 0 (va_A [] sz) := by
  refine Met.ofW (cc := method_2_code) (maxL := 2) (ret := (some .int)) (by decide) rfl ?_
  intro p e s m args below meth c s₁ B hml hv
  obtain ⟨rfl, hsz, hK, hX, hbl⟩ := hv
  have hx := B.exec
  have hb := B.bytes
  have hr := B.returns
  have hlocks := B.notSynchronized
  subst hsz
  generalize hAe : va_A [] s.heap.size = A
  have hbA : ¬ A b := by
    rw [← hAe]
    intro h
    rcases h with ⟨k, e9, h⟩ | h
    · simp at h
    · omega
  have hS : va_S A s.heap s.heap [] := va_S.rf
  have hP : va_P D vwCl [] s.heap := fun k q h => by simp at h
  have hD : va_D A [] := ⟨fun i j p q h => by simp at h, fun k q h => by simp at h⟩
  have hl := lv_entry ([.ref b, .int 0]) (n := 2) (Nat.le_of_ble_eq_true rfl)
  rw [lg_entry_eq]
  generalize (lg_sl ([.ref b, .int 0]) ++ List.replicate (2 - (lg_sl ([.ref b, .int 0])).length) Slot.unset).toArray = ls at hl ⊢
  have hl : lv_has ls 2 [(0, .ref b), (1, .int 0)] := hl
  refine lv_iload_n hx hb d_L_cell_0 rfl (lv_at hl 1 rfl) ?_
  refine lv_aload_n hx hb d_L_cell_1 rfl (lv_at hl 0 rfl) ?_
  refine va_slen hx hb hX hbl hbA hS d_L_cell_2 ?_
  refine lv_icmp_ge (tgt := 12) hx hb d_L_cell_3 (by decide) (fun r_3 => ?_) (fun r_3 => ?_)
  · have c_3 := (nI_leI (a := L) (b := 0) (by omega) (by omega)).mp r_3
    refine lv_iconst (v := 0) hx hb d_L_cell_12 (by decide) ?_
    exact cx_iret hx hb hr hlocks hK hP hD hS d_L_cell_13 (by rw [bd_cell, if_neg (by omega)]) rfl
  · have c_3 := mt (nI_leI (a := L) (b := 0) (by omega) (by omega)).mpr r_3
    refine lv_aload_n hx hb d_L_cell_6 rfl (lv_at hl 0 rfl) ?_
    refine lv_iload_n hx hb d_L_cell_7 rfl (lv_at hl 1 rfl) ?_
    refine va_sld hx hb hX hbl hbA hS (vp_in_nI (n := 0) (by omega) (by omega)) d_L_cell_8 ?_
    refine lv_goto (tgt := 13) hx hb d_L_cell_9 (by decide) ?_
    exact cx_iret hx hb hr hlocks hK hP hD hS d_L_cell_13 (by rw [bd_cell, if_pos (by omega)]; rfl) rfl
