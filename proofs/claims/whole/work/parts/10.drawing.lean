/-! the class's Drawing as pure functions -/
/-- the word behind a chance -/
def bd_w (w : Int64) : Int64 := w * 6364136223846793005 + 1442695040888963407
/-- its highest 31 bits -/
def bd_hi (w : Int64) : Int32 := (w.toUInt64 >>> ((33 : Int32).toInt64.toUInt64 &&& Int64.toUInt64 63)).toInt64.toInt32
/-- a chance below n, of the word w -/
def bd_c (w : Int64) (n : Int32) : Int32 := if 0 < n then bd_hi (bd_w w) - bd_hi (bd_w w) / n * n else 0
def bd_bit (n : Int32) : Int32 := if n < 8 then 1 <<< (n &&& 31) else 0
def bd_w0 (seed : Int64) (kind size : Int32) : Int64 := (seed ^^^ kind.toInt64) * 2862933555777941757 + size.toInt64
def bd_wb (seed : Int64) (kind size : Int32) : Int64 := if kind = 1 then bd_w (bd_w0 seed kind size) else bd_w0 seed kind size
def bd_pb (seed : Int64) (kind size : Int32) : Int32 := if kind = 1 then bd_bit (bd_c (bd_w0 seed kind size) 16) else 0
/-- a part's sort, its number nu, its kind's sort sk -/
def bd_so (sk nu : Int32) (w : Int64) : Int32 := if nu = 0 then 0 else if nu = 1 then 1 else if bd_c w 4 = 3 then 0 else sk
def bd_w1 (nu : Int32) (w : Int64) : Int64 := if nu = 0 then w else if nu = 1 then w else bd_w w
def bd_stp (w : Int64) : Int32 := if bd_c (bd_w w) 5 = 0 then bd_c w 12 + 100 else bd_c w 12
def bd_b (so pb : Int32) (w : Int64) : Int32 := if so = 0 then bd_c w 100 else if so = 1 then bd_c w 8 else if so = 2 then bd_c w 256 ||| pb else if so = 3 then bd_c w 10 else if so = 4 then bd_stp w else if so = 5 then bd_c w 5 else if so = 6 then bd_c w 7 else bd_c w 6
def bd_w3 (so : Int32) (w : Int64) : Int64 := if so = 4 then bd_w (bd_w w) else bd_w w
def bd_ne (nu : Int32) (w : Int64) : Int32 := if nu = 0 then -1 else if nu = 1 then 0 else if bd_c w (nu + 1) = nu then -1 else bd_c w (nu + 1)
def bd_w5 (nu : Int32) (w : Int64) : Int64 := if nu = 0 then w else if nu = 1 then w else bd_w w
/-! the parts of next(), of the word w that stood before it -/
def bd_nS (sk nu : Int32) (w : Int64) : Int32 := bd_so sk nu w
def bd_nA (nu : Int32) (w : Int64) : Int32 := bd_c (bd_w1 nu w) 1000
def bd_nB (sk pb nu : Int32) (w : Int64) : Int32 := bd_b (bd_so sk nu w) pb (bd_w (bd_w1 nu w))
def bd_v3 (sk nu : Int32) (w : Int64) : Int64 := bd_w3 (bd_so sk nu w) (bd_w (bd_w1 nu w))
def bd_nM (sk nu : Int32) (w : Int64) : Int32 := 1 <<< (bd_c (bd_v3 sk nu w) 8 &&& 31)
def bd_nN (sk nu : Int32) (w : Int64) : Int32 := bd_ne nu (bd_w (bd_v3 sk nu w))
def bd_nW (sk nu : Int32) (w : Int64) : Int64 := bd_w5 nu (bd_w (bd_v3 sk nu w))
abbrev cx_KT : Type := ClassId × ClassId × ClassId
abbrev cx_ty (K : cx_KT) : List (ClassId × FieldType) := [(K.1, .int), (K.2.1, .boolean), (K.2.2, .char)]
theorem cx_out7 {x : Int32} (h0 : ¬ x = 0) (h1 : ¬ x = 1) (h2 : ¬ x = 2) (h3 : ¬ x = 3) (h4 : ¬ x = 4) (h5 : ¬ x = 5) (h6 : ¬ x = 6) : x.toInt < 0 ∨ 6 < x.toInt := by
  have a0 := lv_neT (a := 0) h0 (by decide)
  have a1 := lv_neT (a := 1) h1 (by decide)
  have a2 := lv_neT (a := 2) h2 (by decide)
  have a3 := lv_neT (a := 3) h3 (by decide)
  have a4 := lv_neT (a := 4) h4 (by decide)
  have a5 := lv_neT (a := 5) h5 (by decide)
  have a6 := lv_neT (a := 6) h6 (by decide)
  omega
set_option maxHeartbeats 4000000 in
set_option maxRecDepth 100000 in
/-- chance(n) -/
theorem c_D_chance (l : Launch) (G : cx_G) (D : va_G) (K : cx_KT) (sz : Nat) (h0 : Nat) (w : Int64) (sk : Int32) (pb : Int32) (nu : Int32) (so : Int32) (fa : Int32) (fb : Int32) (ne : Int32) (mk : Int32) (n : Int32)  : Met l y_D_chance w_D_chance ({ frames := 0, cells := 0, slots := 0, locals := 0 }) (cx_Pc G D (cx_ty K) [(h0, .inr (0, [.long w, .int sk, .int pb, .int nu, .int so, .int fa, .int fb, .int ne, .int mk]))] sz [.ref h0, .int n]) (cx_Qi (bd_c w n) D (cx_ty K) [(h0, .inr (0, [.long (bd_w w), .int sk, .int pb, .int nu, .int so, .int fa, .int fb, .int ne, .int mk]))] (va_A [(h0, .inr (0, [.long w, .int sk, .int pb, .int nu, .int so, .int fa, .int fb, .int ne, .int mk]))] sz)) 0 0 (va_A [(h0, .inr (0, [.long w, .int sk, .int pb, .int nu, .int so, .int fa, .int fb, .int ne, .int mk]))] sz) := by
  refine Met.ofW (cc := prog_2_method_10_code) (maxL := 3) (ret := (some .int)) (by decide) rfl ?_
  intro p e s m args below meth c s₁ B hml hv
  obtain ⟨rfl, hsz, hP, hK, hD0, hE⟩ := hv
  have hx := B.exec
  have hb := B.bytes
  have hr := B.returns
  have hts := atoms_spec (ws := w_D_chance) B.pre
  have hw : ∀ w ∈ cw, w.before _ s = true := fun w h => hts w (List.mem_cons_of_mem _ h)
  have hown : s.vm.findClass "BuildDrawer$Drawing" = some m.cls := findClass_of_methodNamed B.named
  have hlocks := B.notSynchronized
  subst hsz
  have hD := hD0.self (sz := s.heap.size)
  generalize hAe : va_A [(h0, .inr (0, [.long w, .int sk, .int pb, .int nu, .int so, .int fa, .int fb, .int ne, .int mk]))] s.heap.size = A at hD hE ⊢
  have hA : ∀ q : Nat, s.heap.size ≤ q → A q := fun q h => by rw [← hAe]; exact Or.inr h
  have hS : va_S A s.heap s.heap [] := va_S.rf
  have hl := lv_entry ([.ref h0, .int n]) (n := 3) (Nat.le_of_ble_eq_true rfl)
  rw [lg_entry_eq]
  generalize (lg_sl ([.ref h0, .int n]) ++ List.replicate (3 - (lg_sl ([.ref h0, .int n])).length) Slot.unset).toArray = ls at hl ⊢
  have hl : lv_has ls 3 [(0, .ref h0), (1, .int n)] := hl
  refine lv_aload_n hx hb d_D_chance_0 rfl (lv_at hl 0 rfl) ?_
  refine lv_aload_n hx hb d_D_chance_1 rfl (lv_at hl 0 rfl) ?_
  refine va_get (D := D) (ci := 0) (v := .long w) (C := "BuildDrawer$Drawing") (T := TD) (N := 9) hx hb hw inD hown hK hP 0 rfl rfl 0 (by decide) (hw _ k_23) (fun _ h9 => h9) rfl d_D_chance_2 ?_
  refine lv_ldc2 (v := 6364136223846793005) hx hb hown (hw _ k_120) d_D_chance_5 ?_
  refine lv_lmul hx hb d_D_chance_8 ?_
  refine lv_ldc2 (v := 1442695040888963407) hx hb hown (hw _ k_121) d_D_chance_9 ?_
  refine lv_ladd hx hb d_D_chance_12 ?_
  refine cx_tl (y := bd_w w) (rfl) ?_
  refine va_put (D := D) (ci := 0) (v := .long (bd_w w)) (ty := .long) (C := "BuildDrawer$Drawing") (T := TD) (N := 9) hx hb hw inD tyD tyD_ok nmD hown hK hP hD hS 0 rfl rfl 0 (by decide) (hw _ k_23) (fun _ h9 => h9) rfl (by decide +kernel) rfl rfl (Nat.le_of_ble_eq_true rfl) d_D_chance_13 (fun H locs hP hD hS => ?_)
  have hP : va_P D vwCl [(h0, .inr (0, [.long (bd_w w), .int sk, .int pb, .int nu, .int so, .int fa, .int fb, .int ne, .int mk]))] H := hP
  have hD : va_D A [(h0, .inr (0, [.long (bd_w w), .int sk, .int pb, .int nu, .int so, .int fa, .int fb, .int ne, .int mk]))] := hD
  refine lv_aload_n hx hb d_D_chance_16 rfl (lv_at hl 0 rfl) ?_
  refine va_get (D := D) (ci := 0) (v := .long (bd_w w)) (C := "BuildDrawer$Drawing") (T := TD) (N := 9) hx hb hw inD hown hK hP 0 rfl rfl 0 (by decide) (hw _ k_23) (fun _ h9 => h9) rfl d_D_chance_17 ?_
  refine lv_bipush (v := 33) hx hb d_D_chance_20 (by decide) ?_
  refine lv_lushr (v := ((bd_w w).toUInt64 >>> ((33 : Int32).toInt64.toUInt64 &&& Int64.toUInt64 63)).toInt64) hx hb d_D_chance_22 (rfl) ?_
  refine lv_l2i (v := bd_hi (bd_w w)) hx hb d_D_chance_23 (rfl) ?_
  refine lv_istore_n (lv' := [(2, .int (bd_hi (bd_w w))), (0, .ref h0), (1, .int n)]) hx hb d_D_chance_24 rfl hl (by decide) rfl (fun ls hl => ?_)
  refine lv_iload_n hx hb d_D_chance_25 rfl (lv_at hl 2 rfl) ?_
  refine lv_if_le (tgt := 35) hx hb d_D_chance_26 (by decide) (fun r_26 => ?_) (fun r_26 => ?_)
  · have c_26 := r_26
    refine lv_iconst (v := 0) hx hb d_D_chance_35 (by decide) ?_
    exact cx_iret hx hb hr hlocks hK hP hD hS d_D_chance_36 (by rw [bd_c, if_neg (Int32.not_lt.mpr c_26)]) (rfl)
  · have c_26 := r_26
    refine lv_iload_n hx hb d_D_chance_29 rfl (lv_at hl 0 rfl) ?_
    refine lv_iload_n hx hb d_D_chance_30 rfl (lv_at hl 2 rfl) ?_
    refine lv_irem hx hb d_D_chance_31 (fun h => c_26 (by rw [h]; exact Int32.le_refl _)) ?_
    refine lv_goto (tgt := 36) hx hb d_D_chance_32 (by decide) ?_
    exact cx_iret hx hb hr hlocks hK hP hD hS d_D_chance_36 (by rw [bd_c, if_pos (Int32.not_le.mp c_26)]) (rfl)
set_option maxHeartbeats 4000000 in
set_option maxRecDepth 100000 in
/-- bitOrNone(n) -/
theorem c_D_bitOrNone (l : Launch) (G : cx_G) (D : va_G) (K : cx_KT) (sz : Nat) (n : Int32)  : Met l y_D_bitOrNone w_D_bitOrNone ({ frames := 0, cells := 0, slots := 0, locals := 0 }) (cx_Pc G D (cx_ty K) [] sz [.int n]) (cx_Qi (bd_bit n) D (cx_ty K) [] (va_A [] sz)) 0 0 (va_A [] sz) := by
  refine Met.ofW (cc := prog_2_method_5_code) (maxL := 1) (ret := (some .int)) (by decide) rfl ?_
  intro p e s m args below meth c s₁ B hml hv
  obtain ⟨rfl, hsz, hP, hK, hD0, hE⟩ := hv
  have hx := B.exec
  have hb := B.bytes
  have hr := B.returns
  have hts := atoms_spec (ws := w_D_bitOrNone) B.pre
  have hw : ∀ w ∈ cw, w.before _ s = true := fun w h => hts w (List.mem_cons_of_mem _ h)
  have hown : s.vm.findClass "BuildDrawer$Drawing" = some m.cls := findClass_of_methodNamed B.named
  have hlocks := B.notSynchronized
  subst hsz
  have hD := hD0.self (sz := s.heap.size)
  generalize hAe : va_A [] s.heap.size = A at hD hE ⊢
  have hA : ∀ q : Nat, s.heap.size ≤ q → A q := fun q h => by rw [← hAe]; exact Or.inr h
  have hS : va_S A s.heap s.heap [] := va_S.rf
  have hl := lv_entry ([.int n]) (n := 1) (Nat.le_of_ble_eq_true rfl)
  rw [lg_entry_eq]
  generalize (lg_sl ([.int n]) ++ List.replicate (1 - (lg_sl ([.int n])).length) Slot.unset).toArray = ls at hl ⊢
  have hl : lv_has ls 1 [(0, .int n)] := hl
  refine lv_iload_n hx hb d_D_bitOrNone_0 rfl (lv_at hl 0 rfl) ?_
  refine lv_bipush (v := 8) hx hb d_D_bitOrNone_1 (by decide) ?_
  refine lv_icmp_ge (tgt := 12) hx hb d_D_bitOrNone_3 (by decide) (fun r_3 => ?_) (fun r_3 => ?_)
  · have c_3 := r_3
    refine lv_iconst (v := 0) hx hb d_D_bitOrNone_12 (by decide) ?_
    exact cx_iret hx hb hr hlocks hK hP hD hS d_D_bitOrNone_13 (by rw [bd_bit, if_neg (Int32.not_lt.mpr c_3)]) (rfl)
  · have c_3 := r_3
    refine lv_iconst (v := 1) hx hb d_D_bitOrNone_6 (by decide) ?_
    refine lv_iload_n hx hb d_D_bitOrNone_7 rfl (lv_at hl 0 rfl) ?_
    refine lv_ishl hx hb d_D_bitOrNone_8 ?_
    refine lv_goto (tgt := 13) hx hb d_D_bitOrNone_9 (by decide) ?_
    exact cx_iret hx hb hr hlocks hK hP hD hS d_D_bitOrNone_13 (by rw [bd_bit, if_pos (Int32.not_le.mp c_3)]) (rfl)
set_option maxHeartbeats 4000000 in
set_option maxRecDepth 100000 in
theorem c_D_nextSort (l : Launch) (G : cx_G) (D : va_G) (K : cx_KT) (sz : Nat) (h0 : Nat) (w : Int64) (sk : Int32) (pb : Int32) (nu : Int32) (so : Int32) (fa : Int32) (fb : Int32) (ne : Int32) (mk : Int32)  : Met l y_D_nextSort w_D_nextSort ({ frames := 1, cells := 0, slots := 0, locals := 22 }) (cx_Pc G D (cx_ty K) [(h0, .inr (0, [.long w, .int sk, .int pb, .int nu, .int so, .int fa, .int fb, .int ne, .int mk]))] sz [.ref h0]) (cx_Qi (bd_so sk nu w) D (cx_ty K) [(h0, .inr (0, [.long (bd_w1 nu w), .int sk, .int pb, .int nu, .int so, .int fa, .int fb, .int ne, .int mk]))] (va_A [(h0, .inr (0, [.long w, .int sk, .int pb, .int nu, .int so, .int fa, .int fb, .int ne, .int mk]))] sz)) 0 0 (va_A [(h0, .inr (0, [.long w, .int sk, .int pb, .int nu, .int so, .int fa, .int fb, .int ne, .int mk]))] sz) := by
  refine Met.ofW (cc := prog_2_method_6_code) (maxL := 1) (ret := (some .int)) (by decide) rfl ?_
  intro p e s m args below meth c s₁ B hml hv
  obtain ⟨rfl, hsz, hP, hK, hD0, hE⟩ := hv
  have hx := B.exec
  have hb := B.bytes
  have hr := B.returns
  have hts := atoms_spec (ws := w_D_nextSort) B.pre
  have hw : ∀ w ∈ cw, w.before _ s = true := fun w h => hts w (List.mem_cons_of_mem _ h)
  have hown : s.vm.findClass "BuildDrawer$Drawing" = some m.cls := findClass_of_methodNamed B.named
  have hlocks := B.notSynchronized
  subst hsz
  have hD := hD0.self (sz := s.heap.size)
  generalize hAe : va_A [(h0, .inr (0, [.long w, .int sk, .int pb, .int nu, .int so, .int fa, .int fb, .int ne, .int mk]))] s.heap.size = A at hD hE ⊢
  have hA : ∀ q : Nat, s.heap.size ≤ q → A q := fun q h => by rw [← hAe]; exact Or.inr h
  have hS : va_S A s.heap s.heap [] := va_S.rf
  have hl := lv_entry ([.ref h0]) (n := 1) (Nat.le_of_ble_eq_true rfl)
  rw [lg_entry_eq]
  generalize (lg_sl ([.ref h0]) ++ List.replicate (1 - (lg_sl ([.ref h0])).length) Slot.unset).toArray = ls at hl ⊢
  have hl : lv_has ls 1 [(0, .ref h0)] := hl
  refine lv_aload_n hx hb d_D_nextSort_0 rfl (lv_at hl 0 rfl) ?_
  refine va_get (D := D) (ci := 0) (v := .int nu) (C := "BuildDrawer$Drawing") (T := TD) (N := 9) hx hb hw inD hown hK hP 0 rfl rfl 3 (by decide) (hw _ k_26) (fun _ h9 => h9) rfl d_D_nextSort_1 ?_
  refine lv_if_ne (tgt := 9) hx hb d_D_nextSort_4 (by decide) (fun r_4 => ?_) (fun r_4 => ?_)
  · have c_4 := r_4
    refine lv_aload_n hx hb d_D_nextSort_9 rfl (lv_at hl 0 rfl) ?_
    refine va_get (D := D) (ci := 0) (v := .int nu) (C := "BuildDrawer$Drawing") (T := TD) (N := 9) hx hb hw inD hown hK hP 0 rfl rfl 3 (by decide) (hw _ k_26) (fun _ h9 => h9) rfl d_D_nextSort_10 ?_
    refine lv_iconst (v := 1) hx hb d_D_nextSort_13 (by decide) ?_
    refine lv_icmp_ne (tgt := 19) hx hb d_D_nextSort_14 (by decide) (fun r_14 => ?_) (fun r_14 => ?_)
    · have c_14 := r_14
      refine lv_aload_n hx hb d_D_nextSort_19 rfl (lv_at hl 0 rfl) ?_
      refine lv_iconst (v := 4) hx hb d_D_nextSort_20 (by decide) ?_
      refine cx_ci (wr := []) (wN := [(h0, .inr (0, [.long (bd_w w), .int sk, .int pb, .int nu, .int so, .int fa, .int fb, .int ne, .int mk]))]) (va_runV (As := [.int 4]) (rest := []) ⟨hx, hb, hml, hown, hw⟩ (c_D_chance l G D K s.heap.size h0 w sk pb nu so fa fb ne mk 4) (cwV 1 hw (cx_gV k_116 k_118 ks_D_chance k_2 k_119) rfl rfl rfl (by decide +kernel) ⟨Nat.le_of_ble_eq_true rfl, Nat.le_of_ble_eq_true rfl⟩) (cx_preV (q0 := 0) (ci := 0) hK hP hD hS hA hE rfl rfl [0] rfl rfl (by decide)) rfl rfl hl.1 rfl (lv_room (Nat.le_of_ble_eq_true rfl)) d_D_nextSort_21 ⟨Nat.le_of_ble_eq_true rfl, Nat.le_of_ble_eq_true rfl⟩) hP hD hS hA [0] [] rfl rfl (by decide) (by decide) [0] rfl rfl (by decide) (fun H locs hP hD hS => ?_)
      refine lv_iconst (v := 3) hx hb d_D_nextSort_24 (by decide) ?_
      refine lv_icmp_ne (tgt := 32) hx hb d_D_nextSort_25 (by decide) (fun r_25 => ?_) (fun r_25 => ?_)
      · have c_25 := r_25
        refine lv_aload_n hx hb d_D_nextSort_32 rfl (lv_at hl 0 rfl) ?_
        refine va_get (D := D) (ci := 0) (v := .int sk) (C := "BuildDrawer$Drawing") (T := TD) (N := 9) hx hb hw inD hown hK hP 0 rfl rfl 1 (by decide) (hw _ k_24) (fun _ h9 => h9) rfl d_D_nextSort_33 ?_
        exact cx_iret hx hb hr hlocks hK hP hD hS d_D_nextSort_36 (by simp only [bd_so, if_neg c_4, if_neg c_14, if_neg c_25]) (by simp only [bd_w1, if_neg c_4, if_neg c_14])
      · have c_25 := r_25
        refine lv_iconst (v := 0) hx hb d_D_nextSort_28 (by decide) ?_
        refine lv_goto (tgt := 36) hx hb d_D_nextSort_29 (by decide) ?_
        exact cx_iret hx hb hr hlocks hK hP hD hS d_D_nextSort_36 (by simp only [bd_so, if_neg c_4, if_neg c_14, if_pos c_25]) (by simp only [bd_w1, if_neg c_4, if_neg c_14])
    · have c_14 := r_14
      refine lv_iconst (v := 1) hx hb d_D_nextSort_17 (by decide) ?_
      exact cx_iret hx hb hr hlocks hK hP hD hS d_D_nextSort_18 (by simp only [bd_so, if_neg c_4, if_pos c_14]) (by simp only [bd_w1, if_neg c_4, if_pos c_14])
  · have c_4 := r_4
    refine lv_iconst (v := 0) hx hb d_D_nextSort_7 (by decide) ?_
    exact cx_iret hx hb hr hlocks hK hP hD hS d_D_nextSort_8 (by simp only [bd_so, if_pos c_4]) (by simp only [bd_w1, if_pos c_4])
set_option maxHeartbeats 4000000 in
set_option maxRecDepth 100000 in
theorem c_D_nextBOfStep (l : Launch) (G : cx_G) (D : va_G) (K : cx_KT) (sz : Nat) (h0 : Nat) (w : Int64) (sk : Int32) (pb : Int32) (nu : Int32) (so : Int32) (fa : Int32) (fb : Int32) (ne : Int32) (mk : Int32)  : Met l y_D_nextBOfStep w_D_nextBOfStep ({ frames := 1, cells := 0, slots := 0, locals := 22 }) (cx_Pc G D (cx_ty K) [(h0, .inr (0, [.long w, .int sk, .int pb, .int nu, .int so, .int fa, .int fb, .int ne, .int mk]))] sz [.ref h0]) (cx_Qi (bd_stp w) D (cx_ty K) [(h0, .inr (0, [.long (bd_w (bd_w w)), .int sk, .int pb, .int nu, .int so, .int fa, .int fb, .int ne, .int mk]))] (va_A [(h0, .inr (0, [.long w, .int sk, .int pb, .int nu, .int so, .int fa, .int fb, .int ne, .int mk]))] sz)) 0 0 (va_A [(h0, .inr (0, [.long w, .int sk, .int pb, .int nu, .int so, .int fa, .int fb, .int ne, .int mk]))] sz) := by
  refine Met.ofW (cc := prog_2_method_8_code) (maxL := 2) (ret := (some .int)) (by decide) rfl ?_
  intro p e s m args below meth c s₁ B hml hv
  obtain ⟨rfl, hsz, hP, hK, hD0, hE⟩ := hv
  have hx := B.exec
  have hb := B.bytes
  have hr := B.returns
  have hts := atoms_spec (ws := w_D_nextBOfStep) B.pre
  have hw : ∀ w ∈ cw, w.before _ s = true := fun w h => hts w (List.mem_cons_of_mem _ h)
  have hown : s.vm.findClass "BuildDrawer$Drawing" = some m.cls := findClass_of_methodNamed B.named
  have hlocks := B.notSynchronized
  subst hsz
  have hD := hD0.self (sz := s.heap.size)
  generalize hAe : va_A [(h0, .inr (0, [.long w, .int sk, .int pb, .int nu, .int so, .int fa, .int fb, .int ne, .int mk]))] s.heap.size = A at hD hE ⊢
  have hA : ∀ q : Nat, s.heap.size ≤ q → A q := fun q h => by rw [← hAe]; exact Or.inr h
  have hS : va_S A s.heap s.heap [] := va_S.rf
  have hl := lv_entry ([.ref h0]) (n := 2) (Nat.le_of_ble_eq_true rfl)
  rw [lg_entry_eq]
  generalize (lg_sl ([.ref h0]) ++ List.replicate (2 - (lg_sl ([.ref h0])).length) Slot.unset).toArray = ls at hl ⊢
  have hl : lv_has ls 2 [(0, .ref h0)] := hl
  refine lv_aload_n hx hb d_D_nextBOfStep_0 rfl (lv_at hl 0 rfl) ?_
  refine lv_bipush (v := 12) hx hb d_D_nextBOfStep_1 (by decide) ?_
  refine cx_ci (wr := []) (wN := [(h0, .inr (0, [.long (bd_w w), .int sk, .int pb, .int nu, .int so, .int fa, .int fb, .int ne, .int mk]))]) (va_runV (As := [.int 12]) (rest := []) ⟨hx, hb, hml, hown, hw⟩ (c_D_chance l G D K s.heap.size h0 w sk pb nu so fa fb ne mk 12) (cwV 1 hw (cx_gV k_116 k_118 ks_D_chance k_2 k_119) rfl rfl rfl (by decide +kernel) ⟨Nat.le_of_ble_eq_true rfl, Nat.le_of_ble_eq_true rfl⟩) (cx_preV (q0 := 0) (ci := 0) hK hP hD hS hA hE rfl rfl [0] rfl rfl (by decide)) rfl rfl hl.1 rfl (lv_room (Nat.le_of_ble_eq_true rfl)) d_D_nextBOfStep_3 ⟨Nat.le_of_ble_eq_true rfl, Nat.le_of_ble_eq_true rfl⟩) hP hD hS hA [0] [] rfl rfl (by decide) (by decide) [0] rfl rfl (by decide) (fun H locs hP hD hS => ?_)
  refine lv_istore_n (lv' := [(1, .int (bd_c w 12)), (0, .ref h0)]) hx hb d_D_nextBOfStep_6 rfl hl (by decide) rfl (fun ls hl => ?_)
  refine lv_aload_n hx hb d_D_nextBOfStep_7 rfl (lv_at hl 1 rfl) ?_
  refine lv_iconst (v := 5) hx hb d_D_nextBOfStep_8 (by decide) ?_
  refine cx_ci (wr := []) (wN := [(h0, .inr (0, [.long (bd_w (bd_w w)), .int sk, .int pb, .int nu, .int so, .int fa, .int fb, .int ne, .int mk]))]) (va_runV (As := [.int 5]) (rest := []) ⟨hx, hb, hml, hown, hw⟩ (c_D_chance l G D K H.size h0 (bd_w w) sk pb nu so fa fb ne mk 5) (cwV 1 hw (cx_gV k_116 k_118 ks_D_chance k_2 k_119) rfl rfl rfl (by decide +kernel) ⟨Nat.le_of_ble_eq_true rfl, Nat.le_of_ble_eq_true rfl⟩) (cx_preV (q0 := 0) (ci := 0) hK hP hD hS hA hE rfl rfl [0] rfl rfl (by decide)) rfl rfl hl.1 rfl (lv_room (Nat.le_of_ble_eq_true rfl)) d_D_nextBOfStep_9 ⟨Nat.le_of_ble_eq_true rfl, Nat.le_of_ble_eq_true rfl⟩) hP hD hS hA [0] [] rfl rfl (by decide) (by decide) [0] rfl rfl (by decide) (fun H locs hP hD hS => ?_)
  refine lv_if_ne (tgt := 22) hx hb d_D_nextBOfStep_12 (by decide) (fun r_12 => ?_) (fun r_12 => ?_)
  · have c_12 := r_12
    refine lv_iload_n hx hb d_D_nextBOfStep_22 rfl (lv_at hl 0 rfl) ?_
    exact cx_iret hx hb hr hlocks hK hP hD hS d_D_nextBOfStep_23 (by simp only [bd_stp, if_neg c_12]) (rfl)
  · have c_12 := r_12
    refine lv_iload_n hx hb d_D_nextBOfStep_15 rfl (lv_at hl 0 rfl) ?_
    refine lv_bipush (v := 100) hx hb d_D_nextBOfStep_16 (by decide) ?_
    refine lv_iadd hx hb d_D_nextBOfStep_18 ?_
    refine lv_goto (tgt := 23) hx hb d_D_nextBOfStep_19 (by decide) ?_
    exact cx_iret hx hb hr hlocks hK hP hD hS d_D_nextBOfStep_23 (by simp only [bd_stp, if_pos c_12]) (rfl)
set_option maxHeartbeats 4000000 in
set_option maxRecDepth 100000 in
theorem c_D_nextB (l : Launch) (G : cx_G) (D : va_G) (K : cx_KT) (sz : Nat) (h0 : Nat) (w : Int64) (sk : Int32) (pb : Int32) (nu : Int32) (so : Int32) (fa : Int32) (fb : Int32) (ne : Int32) (mk : Int32)  : Met l y_D_nextB w_D_nextB ({ frames := 2, cells := 0, slots := 0, locals := 43 }) (cx_Pc G D (cx_ty K) [(h0, .inr (0, [.long w, .int sk, .int pb, .int nu, .int so, .int fa, .int fb, .int ne, .int mk]))] sz [.ref h0]) (cx_Qi (bd_b so pb w) D (cx_ty K) [(h0, .inr (0, [.long (bd_w3 so w), .int sk, .int pb, .int nu, .int so, .int fa, .int fb, .int ne, .int mk]))] (va_A [(h0, .inr (0, [.long w, .int sk, .int pb, .int nu, .int so, .int fa, .int fb, .int ne, .int mk]))] sz)) 0 0 (va_A [(h0, .inr (0, [.long w, .int sk, .int pb, .int nu, .int so, .int fa, .int fb, .int ne, .int mk]))] sz) := by
  refine Met.ofW (cc := prog_2_method_7_code) (maxL := 1) (ret := (some .int)) (by decide) rfl ?_
  intro p e s m args below meth c s₁ B hml hv
  obtain ⟨rfl, hsz, hP, hK, hD0, hE⟩ := hv
  have hx := B.exec
  have hb := B.bytes
  have hr := B.returns
  have hts := atoms_spec (ws := w_D_nextB) B.pre
  have hw : ∀ w ∈ cw, w.before _ s = true := fun w h => hts w (List.mem_cons_of_mem _ h)
  have hown : s.vm.findClass "BuildDrawer$Drawing" = some m.cls := findClass_of_methodNamed B.named
  have hlocks := B.notSynchronized
  subst hsz
  have hD := hD0.self (sz := s.heap.size)
  generalize hAe : va_A [(h0, .inr (0, [.long w, .int sk, .int pb, .int nu, .int so, .int fa, .int fb, .int ne, .int mk]))] s.heap.size = A at hD hE ⊢
  have hA : ∀ q : Nat, s.heap.size ≤ q → A q := fun q h => by rw [← hAe]; exact Or.inr h
  have hS : va_S A s.heap s.heap [] := va_S.rf
  have hl := lv_entry ([.ref h0]) (n := 1) (Nat.le_of_ble_eq_true rfl)
  rw [lg_entry_eq]
  generalize (lg_sl ([.ref h0]) ++ List.replicate (1 - (lg_sl ([.ref h0])).length) Slot.unset).toArray = ls at hl ⊢
  have hl : lv_has ls 1 [(0, .ref h0)] := hl
  refine lv_aload_n hx hb d_D_nextB_0 rfl (lv_at hl 0 rfl) ?_
  refine va_get (D := D) (ci := 0) (v := .int so) (C := "BuildDrawer$Drawing") (T := TD) (N := 9) hx hb hw inD hown hK hP 0 rfl rfl 4 (by decide) (hw _ k_27) (fun _ h9 => h9) rfl d_D_nextB_1 ?_
  by_cases z_0 : so = 0
  · refine lv_tableIn (tgt := 48) (off := 44) hx hb d_D_nextB_4 (by rw [z_0]; decide) (by rw [z_0]; decide) (by rw [z_0]; rfl) (by decide) ?_
    refine lv_aload_n hx hb d_D_nextB_48 rfl (lv_at hl 0 rfl) ?_
    refine lv_bipush (v := 100) hx hb d_D_nextB_49 (by decide) ?_
    refine cx_ci (wr := []) (wN := [(h0, .inr (0, [.long (bd_w w), .int sk, .int pb, .int nu, .int so, .int fa, .int fb, .int ne, .int mk]))]) (va_runV (As := [.int 100]) (rest := []) ⟨hx, hb, hml, hown, hw⟩ (c_D_chance l G D K s.heap.size h0 w sk pb nu so fa fb ne mk 100) (cwV 1 hw (cx_gV k_116 k_118 ks_D_chance k_2 k_119) rfl rfl rfl (by decide +kernel) ⟨Nat.le_of_ble_eq_true rfl, Nat.le_of_ble_eq_true rfl⟩) (cx_preV (q0 := 0) (ci := 0) hK hP hD hS hA hE rfl rfl [0] rfl rfl (by decide)) rfl rfl hl.1 rfl (lv_room (Nat.le_of_ble_eq_true rfl)) d_D_nextB_51 ⟨Nat.le_of_ble_eq_true rfl, Nat.le_of_ble_eq_true rfl⟩) hP hD hS hA [0] [] rfl rfl (by decide) (by decide) [0] rfl rfl (by decide) (fun H locs hP hD hS => ?_)
    exact cx_iret hx hb hr hlocks hK hP hD hS d_D_nextB_54 (by simp only [bd_b, if_pos z_0]) (by rw [bd_w3, if_neg (by rw [z_0]; decide)])
  by_cases z_1 : so = 1
  · refine lv_tableIn (tgt := 55) (off := 51) hx hb d_D_nextB_4 (by rw [z_1]; decide) (by rw [z_1]; decide) (by rw [z_1]; rfl) (by decide) ?_
    refine lv_aload_n hx hb d_D_nextB_55 rfl (lv_at hl 0 rfl) ?_
    refine lv_bipush (v := 8) hx hb d_D_nextB_56 (by decide) ?_
    refine cx_ci (wr := []) (wN := [(h0, .inr (0, [.long (bd_w w), .int sk, .int pb, .int nu, .int so, .int fa, .int fb, .int ne, .int mk]))]) (va_runV (As := [.int 8]) (rest := []) ⟨hx, hb, hml, hown, hw⟩ (c_D_chance l G D K s.heap.size h0 w sk pb nu so fa fb ne mk 8) (cwV 1 hw (cx_gV k_116 k_118 ks_D_chance k_2 k_119) rfl rfl rfl (by decide +kernel) ⟨Nat.le_of_ble_eq_true rfl, Nat.le_of_ble_eq_true rfl⟩) (cx_preV (q0 := 0) (ci := 0) hK hP hD hS hA hE rfl rfl [0] rfl rfl (by decide)) rfl rfl hl.1 rfl (lv_room (Nat.le_of_ble_eq_true rfl)) d_D_nextB_58 ⟨Nat.le_of_ble_eq_true rfl, Nat.le_of_ble_eq_true rfl⟩) hP hD hS hA [0] [] rfl rfl (by decide) (by decide) [0] rfl rfl (by decide) (fun H locs hP hD hS => ?_)
    exact cx_iret hx hb hr hlocks hK hP hD hS d_D_nextB_61 (by simp only [bd_b, if_neg z_0, if_pos z_1]) (by rw [bd_w3, if_neg (by rw [z_1]; decide)])
  by_cases z_2 : so = 2
  · refine lv_tableIn (tgt := 62) (off := 58) hx hb d_D_nextB_4 (by rw [z_2]; decide) (by rw [z_2]; decide) (by rw [z_2]; rfl) (by decide) ?_
    refine lv_aload_n hx hb d_D_nextB_62 rfl (lv_at hl 0 rfl) ?_
    refine lv_sipush (v := 256) hx hb d_D_nextB_63 (by decide) ?_
    refine cx_ci (wr := []) (wN := [(h0, .inr (0, [.long (bd_w w), .int sk, .int pb, .int nu, .int so, .int fa, .int fb, .int ne, .int mk]))]) (va_runV (As := [.int 256]) (rest := []) ⟨hx, hb, hml, hown, hw⟩ (c_D_chance l G D K s.heap.size h0 w sk pb nu so fa fb ne mk 256) (cwV 1 hw (cx_gV k_116 k_118 ks_D_chance k_2 k_119) rfl rfl rfl (by decide +kernel) ⟨Nat.le_of_ble_eq_true rfl, Nat.le_of_ble_eq_true rfl⟩) (cx_preV (q0 := 0) (ci := 0) hK hP hD hS hA hE rfl rfl [0] rfl rfl (by decide)) rfl rfl hl.1 rfl (lv_room (Nat.le_of_ble_eq_true rfl)) d_D_nextB_66 ⟨Nat.le_of_ble_eq_true rfl, Nat.le_of_ble_eq_true rfl⟩) hP hD hS hA [0] [] rfl rfl (by decide) (by decide) [0] rfl rfl (by decide) (fun H locs hP hD hS => ?_)
    refine lv_aload_n hx hb d_D_nextB_69 rfl (lv_at hl 0 rfl) ?_
    refine va_get (D := D) (ci := 0) (v := .int pb) (C := "BuildDrawer$Drawing") (T := TD) (N := 9) hx hb hw inD hown hK hP 0 rfl rfl 2 (by decide) (hw _ k_25) (fun _ h9 => h9) rfl d_D_nextB_70 ?_
    refine lv_ior hx hb d_D_nextB_73 ?_
    exact cx_iret hx hb hr hlocks hK hP hD hS d_D_nextB_74 (by simp only [bd_b, if_neg z_0, if_neg z_1, if_pos z_2]) (by rw [bd_w3, if_neg (by rw [z_2]; decide)])
  by_cases z_3 : so = 3
  · refine lv_tableIn (tgt := 75) (off := 71) hx hb d_D_nextB_4 (by rw [z_3]; decide) (by rw [z_3]; decide) (by rw [z_3]; rfl) (by decide) ?_
    refine lv_aload_n hx hb d_D_nextB_75 rfl (lv_at hl 0 rfl) ?_
    refine lv_bipush (v := 10) hx hb d_D_nextB_76 (by decide) ?_
    refine cx_ci (wr := []) (wN := [(h0, .inr (0, [.long (bd_w w), .int sk, .int pb, .int nu, .int so, .int fa, .int fb, .int ne, .int mk]))]) (va_runV (As := [.int 10]) (rest := []) ⟨hx, hb, hml, hown, hw⟩ (c_D_chance l G D K s.heap.size h0 w sk pb nu so fa fb ne mk 10) (cwV 1 hw (cx_gV k_116 k_118 ks_D_chance k_2 k_119) rfl rfl rfl (by decide +kernel) ⟨Nat.le_of_ble_eq_true rfl, Nat.le_of_ble_eq_true rfl⟩) (cx_preV (q0 := 0) (ci := 0) hK hP hD hS hA hE rfl rfl [0] rfl rfl (by decide)) rfl rfl hl.1 rfl (lv_room (Nat.le_of_ble_eq_true rfl)) d_D_nextB_78 ⟨Nat.le_of_ble_eq_true rfl, Nat.le_of_ble_eq_true rfl⟩) hP hD hS hA [0] [] rfl rfl (by decide) (by decide) [0] rfl rfl (by decide) (fun H locs hP hD hS => ?_)
    exact cx_iret hx hb hr hlocks hK hP hD hS d_D_nextB_81 (by simp only [bd_b, if_neg z_0, if_neg z_1, if_neg z_2, if_pos z_3]) (by rw [bd_w3, if_neg (by rw [z_3]; decide)])
  by_cases z_4 : so = 4
  · refine lv_tableIn (tgt := 82) (off := 78) hx hb d_D_nextB_4 (by rw [z_4]; decide) (by rw [z_4]; decide) (by rw [z_4]; rfl) (by decide) ?_
    refine lv_aload_n hx hb d_D_nextB_82 rfl (lv_at hl 0 rfl) ?_
    refine cx_ci (wr := []) (wN := [(h0, .inr (0, [.long (bd_w (bd_w w)), .int sk, .int pb, .int nu, .int so, .int fa, .int fb, .int ne, .int mk]))]) (va_runV (As := []) (rest := []) ⟨hx, hb, hml, hown, hw⟩ (c_D_nextBOfStep l G D K s.heap.size h0 w sk pb nu so fa fb ne mk) (cwV 0 hw (cx_gV k_137 k_139 ks_D_nextBOfStep k_2 k_140) rfl rfl rfl (by decide +kernel) ⟨Nat.le_of_ble_eq_true rfl, Nat.le_of_ble_eq_true rfl⟩) (cx_preV (q0 := 0) (ci := 0) hK hP hD hS hA hE rfl rfl [0] rfl rfl (by decide)) rfl rfl hl.1 rfl (lv_room (Nat.le_of_ble_eq_true rfl)) d_D_nextB_83 ⟨Nat.le_of_ble_eq_true rfl, Nat.le_of_ble_eq_true rfl⟩) hP hD hS hA [0] [] rfl rfl (by decide) (by decide) [0] rfl rfl (by decide) (fun H locs hP hD hS => ?_)
    exact cx_iret hx hb hr hlocks hK hP hD hS d_D_nextB_86 (by simp only [bd_b, if_neg z_0, if_neg z_1, if_neg z_2, if_neg z_3, if_pos z_4]) (by simp only [bd_w3, if_pos z_4])
  by_cases z_5 : so = 5
  · refine lv_tableIn (tgt := 87) (off := 83) hx hb d_D_nextB_4 (by rw [z_5]; decide) (by rw [z_5]; decide) (by rw [z_5]; rfl) (by decide) ?_
    refine lv_aload_n hx hb d_D_nextB_87 rfl (lv_at hl 0 rfl) ?_
    refine lv_iconst (v := 5) hx hb d_D_nextB_88 (by decide) ?_
    refine cx_ci (wr := []) (wN := [(h0, .inr (0, [.long (bd_w w), .int sk, .int pb, .int nu, .int so, .int fa, .int fb, .int ne, .int mk]))]) (va_runV (As := [.int 5]) (rest := []) ⟨hx, hb, hml, hown, hw⟩ (c_D_chance l G D K s.heap.size h0 w sk pb nu so fa fb ne mk 5) (cwV 1 hw (cx_gV k_116 k_118 ks_D_chance k_2 k_119) rfl rfl rfl (by decide +kernel) ⟨Nat.le_of_ble_eq_true rfl, Nat.le_of_ble_eq_true rfl⟩) (cx_preV (q0 := 0) (ci := 0) hK hP hD hS hA hE rfl rfl [0] rfl rfl (by decide)) rfl rfl hl.1 rfl (lv_room (Nat.le_of_ble_eq_true rfl)) d_D_nextB_89 ⟨Nat.le_of_ble_eq_true rfl, Nat.le_of_ble_eq_true rfl⟩) hP hD hS hA [0] [] rfl rfl (by decide) (by decide) [0] rfl rfl (by decide) (fun H locs hP hD hS => ?_)
    exact cx_iret hx hb hr hlocks hK hP hD hS d_D_nextB_92 (by simp only [bd_b, if_neg z_0, if_neg z_1, if_neg z_2, if_neg z_3, if_neg z_4, if_pos z_5]) (by rw [bd_w3, if_neg z_4])
  by_cases z_6 : so = 6
  · refine lv_tableIn (tgt := 93) (off := 89) hx hb d_D_nextB_4 (by rw [z_6]; decide) (by rw [z_6]; decide) (by rw [z_6]; rfl) (by decide) ?_
    refine lv_aload_n hx hb d_D_nextB_93 rfl (lv_at hl 0 rfl) ?_
    refine lv_bipush (v := 7) hx hb d_D_nextB_94 (by decide) ?_
    refine cx_ci (wr := []) (wN := [(h0, .inr (0, [.long (bd_w w), .int sk, .int pb, .int nu, .int so, .int fa, .int fb, .int ne, .int mk]))]) (va_runV (As := [.int 7]) (rest := []) ⟨hx, hb, hml, hown, hw⟩ (c_D_chance l G D K s.heap.size h0 w sk pb nu so fa fb ne mk 7) (cwV 1 hw (cx_gV k_116 k_118 ks_D_chance k_2 k_119) rfl rfl rfl (by decide +kernel) ⟨Nat.le_of_ble_eq_true rfl, Nat.le_of_ble_eq_true rfl⟩) (cx_preV (q0 := 0) (ci := 0) hK hP hD hS hA hE rfl rfl [0] rfl rfl (by decide)) rfl rfl hl.1 rfl (lv_room (Nat.le_of_ble_eq_true rfl)) d_D_nextB_96 ⟨Nat.le_of_ble_eq_true rfl, Nat.le_of_ble_eq_true rfl⟩) hP hD hS hA [0] [] rfl rfl (by decide) (by decide) [0] rfl rfl (by decide) (fun H locs hP hD hS => ?_)
    exact cx_iret hx hb hr hlocks hK hP hD hS d_D_nextB_99 (by simp only [bd_b, if_neg z_0, if_neg z_1, if_neg z_2, if_neg z_3, if_neg z_4, if_neg z_5, if_pos z_6]) (by rw [bd_w3, if_neg z_4])
  refine lv_tableOut (tgt := 100) hx hb d_D_nextB_4 (cx_out7 z_0 z_1 z_2 z_3 z_4 z_5 z_6) (by decide) ?_
  refine lv_aload_n hx hb d_D_nextB_100 rfl (lv_at hl 0 rfl) ?_
  refine lv_bipush (v := 6) hx hb d_D_nextB_101 (by decide) ?_
  refine cx_ci (wr := []) (wN := [(h0, .inr (0, [.long (bd_w w), .int sk, .int pb, .int nu, .int so, .int fa, .int fb, .int ne, .int mk]))]) (va_runV (As := [.int 6]) (rest := []) ⟨hx, hb, hml, hown, hw⟩ (c_D_chance l G D K s.heap.size h0 w sk pb nu so fa fb ne mk 6) (cwV 1 hw (cx_gV k_116 k_118 ks_D_chance k_2 k_119) rfl rfl rfl (by decide +kernel) ⟨Nat.le_of_ble_eq_true rfl, Nat.le_of_ble_eq_true rfl⟩) (cx_preV (q0 := 0) (ci := 0) hK hP hD hS hA hE rfl rfl [0] rfl rfl (by decide)) rfl rfl hl.1 rfl (lv_room (Nat.le_of_ble_eq_true rfl)) d_D_nextB_103 ⟨Nat.le_of_ble_eq_true rfl, Nat.le_of_ble_eq_true rfl⟩) hP hD hS hA [0] [] rfl rfl (by decide) (by decide) [0] rfl rfl (by decide) (fun H locs hP hD hS => ?_)
  exact cx_iret hx hb hr hlocks hK hP hD hS d_D_nextB_106 (by simp only [bd_b, if_neg z_0, if_neg z_1, if_neg z_2, if_neg z_3, if_neg z_4, if_neg z_5, if_neg z_6]) (by rw [bd_w3, if_neg z_4])
set_option maxHeartbeats 4000000 in
set_option maxRecDepth 100000 in
theorem c_D_nextNeed (l : Launch) (G : cx_G) (D : va_G) (K : cx_KT) (sz : Nat) (h0 : Nat) (w : Int64) (sk : Int32) (pb : Int32) (nu : Int32) (so : Int32) (fa : Int32) (fb : Int32) (ne : Int32) (mk : Int32)  : Met l y_D_nextNeed w_D_nextNeed ({ frames := 1, cells := 0, slots := 0, locals := 22 }) (cx_Pc G D (cx_ty K) [(h0, .inr (0, [.long w, .int sk, .int pb, .int nu, .int so, .int fa, .int fb, .int ne, .int mk]))] sz [.ref h0]) (cx_Qi (bd_ne nu w) D (cx_ty K) [(h0, .inr (0, [.long (bd_w5 nu w), .int sk, .int pb, .int nu, .int so, .int fa, .int fb, .int ne, .int mk]))] (va_A [(h0, .inr (0, [.long w, .int sk, .int pb, .int nu, .int so, .int fa, .int fb, .int ne, .int mk]))] sz)) 0 0 (va_A [(h0, .inr (0, [.long w, .int sk, .int pb, .int nu, .int so, .int fa, .int fb, .int ne, .int mk]))] sz) := by
  refine Met.ofW (cc := prog_2_method_9_code) (maxL := 2) (ret := (some .int)) (by decide) rfl ?_
  intro p e s m args below meth c s₁ B hml hv
  obtain ⟨rfl, hsz, hP, hK, hD0, hE⟩ := hv
  have hx := B.exec
  have hb := B.bytes
  have hr := B.returns
  have hts := atoms_spec (ws := w_D_nextNeed) B.pre
  have hw : ∀ w ∈ cw, w.before _ s = true := fun w h => hts w (List.mem_cons_of_mem _ h)
  have hown : s.vm.findClass "BuildDrawer$Drawing" = some m.cls := findClass_of_methodNamed B.named
  have hlocks := B.notSynchronized
  subst hsz
  have hD := hD0.self (sz := s.heap.size)
  generalize hAe : va_A [(h0, .inr (0, [.long w, .int sk, .int pb, .int nu, .int so, .int fa, .int fb, .int ne, .int mk]))] s.heap.size = A at hD hE ⊢
  have hA : ∀ q : Nat, s.heap.size ≤ q → A q := fun q h => by rw [← hAe]; exact Or.inr h
  have hS : va_S A s.heap s.heap [] := va_S.rf
  have hl := lv_entry ([.ref h0]) (n := 2) (Nat.le_of_ble_eq_true rfl)
  rw [lg_entry_eq]
  generalize (lg_sl ([.ref h0]) ++ List.replicate (2 - (lg_sl ([.ref h0])).length) Slot.unset).toArray = ls at hl ⊢
  have hl : lv_has ls 2 [(0, .ref h0)] := hl
  refine lv_aload_n hx hb d_D_nextNeed_0 rfl (lv_at hl 0 rfl) ?_
  refine va_get (D := D) (ci := 0) (v := .int nu) (C := "BuildDrawer$Drawing") (T := TD) (N := 9) hx hb hw inD hown hK hP 0 rfl rfl 3 (by decide) (hw _ k_26) (fun _ h9 => h9) rfl d_D_nextNeed_1 ?_
  refine lv_if_ne (tgt := 9) hx hb d_D_nextNeed_4 (by decide) (fun r_4 => ?_) (fun r_4 => ?_)
  · have c_4 := r_4
    refine lv_aload_n hx hb d_D_nextNeed_9 rfl (lv_at hl 0 rfl) ?_
    refine va_get (D := D) (ci := 0) (v := .int nu) (C := "BuildDrawer$Drawing") (T := TD) (N := 9) hx hb hw inD hown hK hP 0 rfl rfl 3 (by decide) (hw _ k_26) (fun _ h9 => h9) rfl d_D_nextNeed_10 ?_
    refine lv_iconst (v := 1) hx hb d_D_nextNeed_13 (by decide) ?_
    refine lv_icmp_ne (tgt := 19) hx hb d_D_nextNeed_14 (by decide) (fun r_14 => ?_) (fun r_14 => ?_)
    · have c_14 := r_14
      refine lv_aload_n hx hb d_D_nextNeed_19 rfl (lv_at hl 0 rfl) ?_
      refine lv_aload_n hx hb d_D_nextNeed_20 rfl (lv_at hl 0 rfl) ?_
      refine va_get (D := D) (ci := 0) (v := .int nu) (C := "BuildDrawer$Drawing") (T := TD) (N := 9) hx hb hw inD hown hK hP 0 rfl rfl 3 (by decide) (hw _ k_26) (fun _ h9 => h9) rfl d_D_nextNeed_21 ?_
      refine lv_iconst (v := 1) hx hb d_D_nextNeed_24 (by decide) ?_
      refine lv_iadd hx hb d_D_nextNeed_25 ?_
      refine cx_ci (wr := []) (wN := [(h0, .inr (0, [.long (bd_w w), .int sk, .int pb, .int nu, .int so, .int fa, .int fb, .int ne, .int mk]))]) (va_runV (As := [.int (nu + 1)]) (rest := []) ⟨hx, hb, hml, hown, hw⟩ (c_D_chance l G D K s.heap.size h0 w sk pb nu so fa fb ne mk (nu + 1)) (cwV 1 hw (cx_gV k_116 k_118 ks_D_chance k_2 k_119) rfl rfl rfl (by decide +kernel) ⟨Nat.le_of_ble_eq_true rfl, Nat.le_of_ble_eq_true rfl⟩) (cx_preV (q0 := 0) (ci := 0) hK hP hD hS hA hE rfl rfl [0] rfl rfl (by decide)) rfl rfl hl.1 rfl (lv_room (Nat.le_of_ble_eq_true rfl)) d_D_nextNeed_26 ⟨Nat.le_of_ble_eq_true rfl, Nat.le_of_ble_eq_true rfl⟩) hP hD hS hA [0] [] rfl rfl (by decide) (by decide) [0] rfl rfl (by decide) (fun H locs hP hD hS => ?_)
      refine lv_istore_n (lv' := [(1, .int (bd_c w (nu + 1))), (0, .ref h0)]) hx hb d_D_nextNeed_29 rfl hl (by decide) rfl (fun ls hl => ?_)
      refine lv_iload_n hx hb d_D_nextNeed_30 rfl (lv_at hl 0 rfl) ?_
      refine lv_aload_n hx hb d_D_nextNeed_31 rfl (lv_at hl 1 rfl) ?_
      refine va_get (D := D) (ci := 0) (v := .int nu) (C := "BuildDrawer$Drawing") (T := TD) (N := 9) hx hb hw inD hown hK hP 0 rfl rfl 3 (by decide) (hw _ k_26) (fun _ h9 => h9) rfl d_D_nextNeed_32 ?_
      refine lv_icmp_ne (tgt := 42) hx hb d_D_nextNeed_35 (by decide) (fun r_35 => ?_) (fun r_35 => ?_)
      · have c_35 := r_35
        refine lv_iload_n hx hb d_D_nextNeed_42 rfl (lv_at hl 0 rfl) ?_
        exact cx_iret hx hb hr hlocks hK hP hD hS d_D_nextNeed_43 (by simp only [bd_ne, if_neg c_4, if_neg c_14, if_neg c_35]) (by simp only [bd_w5, if_neg c_4, if_neg c_14])
      · have c_35 := r_35
        refine lv_iconst (v := (-1)) hx hb d_D_nextNeed_38 (by decide) ?_
        refine lv_goto (tgt := 43) hx hb d_D_nextNeed_39 (by decide) ?_
        exact cx_iret hx hb hr hlocks hK hP hD hS d_D_nextNeed_43 (by simp only [bd_ne, if_neg c_4, if_neg c_14, if_pos c_35]) (by simp only [bd_w5, if_neg c_4, if_neg c_14])
    · have c_14 := r_14
      refine lv_iconst (v := 0) hx hb d_D_nextNeed_17 (by decide) ?_
      exact cx_iret hx hb hr hlocks hK hP hD hS d_D_nextNeed_18 (by simp only [bd_ne, if_neg c_4, if_pos c_14]) (by simp only [bd_w5, if_neg c_4, if_pos c_14])
  · have c_4 := r_4
    refine lv_iconst (v := (-1)) hx hb d_D_nextNeed_7 (by decide) ?_
    exact cx_iret hx hb hr hlocks hK hP hD hS d_D_nextNeed_8 (by simp only [bd_ne, if_pos c_4]) (by simp only [bd_w5, if_pos c_4])
set_option maxHeartbeats 4000000 in
set_option maxRecDepth 100000 in
theorem c_D_next (l : Launch) (G : cx_G) (D : va_G) (K : cx_KT) (sz : Nat) (h0 : Nat) (w : Int64) (sk : Int32) (pb : Int32) (nu : Int32) (so : Int32) (fa : Int32) (fb : Int32) (ne : Int32) (mk : Int32)  : Met l y_D_next w_D_next ({ frames := 3, cells := 0, slots := 0, locals := 63 }) (cx_Pc G D (cx_ty K) [(h0, .inr (0, [.long w, .int sk, .int pb, .int nu, .int so, .int fa, .int fb, .int ne, .int mk]))] sz [.ref h0]) (cx_Qv D (cx_ty K) [(h0, .inr (0, [.long (bd_nW sk (nu + 1) w), .int sk, .int pb, .int (nu + 1), .int (bd_nS sk (nu + 1) w), .int (bd_nA (nu + 1) w), .int (bd_nB sk pb (nu + 1) w), .int (bd_nN sk (nu + 1) w), .int (bd_nM sk (nu + 1) w)]))] (va_A [(h0, .inr (0, [.long w, .int sk, .int pb, .int nu, .int so, .int fa, .int fb, .int ne, .int mk]))] sz)) 0 0 (va_A [(h0, .inr (0, [.long w, .int sk, .int pb, .int nu, .int so, .int fa, .int fb, .int ne, .int mk]))] sz) := by
  refine Met.ofW (cc := prog_2_method_3_code) (maxL := 1) (ret := none) (by decide) rfl ?_
  intro p e s m args below meth c s₁ B hml hv
  obtain ⟨rfl, hsz, hP, hK, hD0, hE⟩ := hv
  have hx := B.exec
  have hb := B.bytes
  have hr := B.returns
  have hts := atoms_spec (ws := w_D_next) B.pre
  have hw : ∀ w ∈ cw, w.before _ s = true := fun w h => hts w (List.mem_cons_of_mem _ h)
  have hown : s.vm.findClass "BuildDrawer$Drawing" = some m.cls := findClass_of_methodNamed B.named
  have hlocks := B.notSynchronized
  subst hsz
  have hD := hD0.self (sz := s.heap.size)
  generalize hAe : va_A [(h0, .inr (0, [.long w, .int sk, .int pb, .int nu, .int so, .int fa, .int fb, .int ne, .int mk]))] s.heap.size = A at hD hE ⊢
  have hA : ∀ q : Nat, s.heap.size ≤ q → A q := fun q h => by rw [← hAe]; exact Or.inr h
  have hS : va_S A s.heap s.heap [] := va_S.rf
  have hl := lv_entry ([.ref h0]) (n := 1) (Nat.le_of_ble_eq_true rfl)
  rw [lg_entry_eq]
  generalize (lg_sl ([.ref h0]) ++ List.replicate (1 - (lg_sl ([.ref h0])).length) Slot.unset).toArray = ls at hl ⊢
  have hl : lv_has ls 1 [(0, .ref h0)] := hl
  refine lv_aload_n hx hb d_D_next_0 rfl (lv_at hl 0 rfl) ?_
  refine lv_dup hx hb d_D_next_1 rfl ?_
  refine va_get (D := D) (ci := 0) (v := .int nu) (C := "BuildDrawer$Drawing") (T := TD) (N := 9) hx hb hw inD hown hK hP 0 rfl rfl 3 (by decide) (hw _ k_26) (fun _ h9 => h9) rfl d_D_next_2 ?_
  refine lv_iconst (v := 1) hx hb d_D_next_5 (by decide) ?_
  refine lv_iadd hx hb d_D_next_6 ?_
  refine va_put (D := D) (ci := 0) (v := .int (nu + 1)) (ty := .int) (C := "BuildDrawer$Drawing") (T := TD) (N := 9) hx hb hw inD tyD tyD_ok nmD hown hK hP hD hS 0 rfl rfl 3 (by decide) (hw _ k_26) (fun _ h9 => h9) rfl (by decide +kernel) rfl rfl (Nat.le_of_ble_eq_true rfl) d_D_next_7 (fun H locs hP hD hS => ?_)
  have hP : va_P D vwCl [(h0, .inr (0, [.long w, .int sk, .int pb, .int (nu + 1), .int so, .int fa, .int fb, .int ne, .int mk]))] H := hP
  have hD : va_D A [(h0, .inr (0, [.long w, .int sk, .int pb, .int (nu + 1), .int so, .int fa, .int fb, .int ne, .int mk]))] := hD
  refine lv_aload_n hx hb d_D_next_10 rfl (lv_at hl 0 rfl) ?_
  refine lv_aload_n hx hb d_D_next_11 rfl (lv_at hl 0 rfl) ?_
  refine cx_ci (wr := []) (wN := [(h0, .inr (0, [.long (bd_w1 (nu + 1) w), .int sk, .int pb, .int (nu + 1), .int so, .int fa, .int fb, .int ne, .int mk]))]) (va_runV (As := []) (rest := [.ref h0]) ⟨hx, hb, hml, hown, hw⟩ (c_D_nextSort l G D K H.size h0 w sk pb (nu + 1) so fa fb ne mk) (cwV 0 hw (cx_gV k_129 k_131 ks_D_nextSort k_2 k_132) rfl rfl rfl (by decide +kernel) ⟨Nat.le_of_ble_eq_true rfl, Nat.le_of_ble_eq_true rfl⟩) (cx_preV (q0 := 0) (ci := 0) hK hP hD hS hA hE rfl rfl [0] rfl rfl (by decide)) rfl rfl hl.1 rfl (lv_room (Nat.le_of_ble_eq_true rfl)) d_D_next_12 ⟨Nat.le_of_ble_eq_true rfl, Nat.le_of_ble_eq_true rfl⟩) hP hD hS hA [0] [] rfl rfl (by decide) (by decide) [0] rfl rfl (by decide) (fun H locs hP hD hS => ?_)
  refine va_put (D := D) (ci := 0) (v := .int (bd_so sk (nu + 1) w)) (ty := .int) (C := "BuildDrawer$Drawing") (T := TD) (N := 9) hx hb hw inD tyD tyD_ok nmD hown hK hP hD hS 0 rfl rfl 4 (by decide) (hw _ k_27) (fun _ h9 => h9) rfl (by decide +kernel) rfl rfl (Nat.le_of_ble_eq_true rfl) d_D_next_15 (fun H locs hP hD hS => ?_)
  have hP : va_P D vwCl [(h0, .inr (0, [.long (bd_w1 (nu + 1) w), .int sk, .int pb, .int (nu + 1), .int (bd_so sk (nu + 1) w), .int fa, .int fb, .int ne, .int mk]))] H := hP
  have hD : va_D A [(h0, .inr (0, [.long (bd_w1 (nu + 1) w), .int sk, .int pb, .int (nu + 1), .int (bd_so sk (nu + 1) w), .int fa, .int fb, .int ne, .int mk]))] := hD
  refine lv_aload_n hx hb d_D_next_18 rfl (lv_at hl 0 rfl) ?_
  refine lv_aload_n hx hb d_D_next_19 rfl (lv_at hl 0 rfl) ?_
  refine lv_sipush (v := 1000) hx hb d_D_next_20 (by decide) ?_
  refine cx_ci (wr := []) (wN := [(h0, .inr (0, [.long (bd_w (bd_w1 (nu + 1) w)), .int sk, .int pb, .int (nu + 1), .int (bd_so sk (nu + 1) w), .int fa, .int fb, .int ne, .int mk]))]) (va_runV (As := [.int 1000]) (rest := [.ref h0]) ⟨hx, hb, hml, hown, hw⟩ (c_D_chance l G D K H.size h0 (bd_w1 (nu + 1) w) sk pb (nu + 1) (bd_so sk (nu + 1) w) fa fb ne mk 1000) (cwV 1 hw (cx_gV k_116 k_118 ks_D_chance k_2 k_119) rfl rfl rfl (by decide +kernel) ⟨Nat.le_of_ble_eq_true rfl, Nat.le_of_ble_eq_true rfl⟩) (cx_preV (q0 := 0) (ci := 0) hK hP hD hS hA hE rfl rfl [0] rfl rfl (by decide)) rfl rfl hl.1 rfl (lv_room (Nat.le_of_ble_eq_true rfl)) d_D_next_23 ⟨Nat.le_of_ble_eq_true rfl, Nat.le_of_ble_eq_true rfl⟩) hP hD hS hA [0] [] rfl rfl (by decide) (by decide) [0] rfl rfl (by decide) (fun H locs hP hD hS => ?_)
  refine va_put (D := D) (ci := 0) (v := .int (bd_c (bd_w1 (nu + 1) w) 1000)) (ty := .int) (C := "BuildDrawer$Drawing") (T := TD) (N := 9) hx hb hw inD tyD tyD_ok nmD hown hK hP hD hS 0 rfl rfl 5 (by decide) (hw _ k_29) (fun _ h9 => h9) rfl (by decide +kernel) rfl rfl (Nat.le_of_ble_eq_true rfl) d_D_next_26 (fun H locs hP hD hS => ?_)
  have hP : va_P D vwCl [(h0, .inr (0, [.long (bd_w (bd_w1 (nu + 1) w)), .int sk, .int pb, .int (nu + 1), .int (bd_so sk (nu + 1) w), .int (bd_c (bd_w1 (nu + 1) w) 1000), .int fb, .int ne, .int mk]))] H := hP
  have hD : va_D A [(h0, .inr (0, [.long (bd_w (bd_w1 (nu + 1) w)), .int sk, .int pb, .int (nu + 1), .int (bd_so sk (nu + 1) w), .int (bd_c (bd_w1 (nu + 1) w) 1000), .int fb, .int ne, .int mk]))] := hD
  refine lv_aload_n hx hb d_D_next_29 rfl (lv_at hl 0 rfl) ?_
  refine lv_aload_n hx hb d_D_next_30 rfl (lv_at hl 0 rfl) ?_
  refine cx_ci (wr := []) (wN := [(h0, .inr (0, [.long (bd_w3 (bd_so sk (nu + 1) w) (bd_w (bd_w1 (nu + 1) w))), .int sk, .int pb, .int (nu + 1), .int (bd_so sk (nu + 1) w), .int (bd_c (bd_w1 (nu + 1) w) 1000), .int fb, .int ne, .int mk]))]) (va_runV (As := []) (rest := [.ref h0]) ⟨hx, hb, hml, hown, hw⟩ (c_D_nextB l G D K H.size h0 (bd_w (bd_w1 (nu + 1) w)) sk pb (nu + 1) (bd_so sk (nu + 1) w) (bd_c (bd_w1 (nu + 1) w) 1000) fb ne mk) (cwV 0 hw (cx_gV k_133 k_135 ks_D_nextB k_2 k_136) rfl rfl rfl (by decide +kernel) ⟨Nat.le_of_ble_eq_true rfl, Nat.le_of_ble_eq_true rfl⟩) (cx_preV (q0 := 0) (ci := 0) hK hP hD hS hA hE rfl rfl [0] rfl rfl (by decide)) rfl rfl hl.1 rfl (lv_room (Nat.le_of_ble_eq_true rfl)) d_D_next_31 ⟨Nat.le_of_ble_eq_true rfl, Nat.le_of_ble_eq_true rfl⟩) hP hD hS hA [0] [] rfl rfl (by decide) (by decide) [0] rfl rfl (by decide) (fun H locs hP hD hS => ?_)
  refine va_put (D := D) (ci := 0) (v := .int (bd_b (bd_so sk (nu + 1) w) pb (bd_w (bd_w1 (nu + 1) w)))) (ty := .int) (C := "BuildDrawer$Drawing") (T := TD) (N := 9) hx hb hw inD tyD tyD_ok nmD hown hK hP hD hS 0 rfl rfl 6 (by decide) (hw _ k_31) (fun _ h9 => h9) rfl (by decide +kernel) rfl rfl (Nat.le_of_ble_eq_true rfl) d_D_next_34 (fun H locs hP hD hS => ?_)
  have hP : va_P D vwCl [(h0, .inr (0, [.long (bd_w3 (bd_so sk (nu + 1) w) (bd_w (bd_w1 (nu + 1) w))), .int sk, .int pb, .int (nu + 1), .int (bd_so sk (nu + 1) w), .int (bd_c (bd_w1 (nu + 1) w) 1000), .int (bd_b (bd_so sk (nu + 1) w) pb (bd_w (bd_w1 (nu + 1) w))), .int ne, .int mk]))] H := hP
  have hD : va_D A [(h0, .inr (0, [.long (bd_w3 (bd_so sk (nu + 1) w) (bd_w (bd_w1 (nu + 1) w))), .int sk, .int pb, .int (nu + 1), .int (bd_so sk (nu + 1) w), .int (bd_c (bd_w1 (nu + 1) w) 1000), .int (bd_b (bd_so sk (nu + 1) w) pb (bd_w (bd_w1 (nu + 1) w))), .int ne, .int mk]))] := hD
  refine lv_aload_n hx hb d_D_next_37 rfl (lv_at hl 0 rfl) ?_
  refine lv_iconst (v := 1) hx hb d_D_next_38 (by decide) ?_
  refine lv_aload_n hx hb d_D_next_39 rfl (lv_at hl 0 rfl) ?_
  refine lv_bipush (v := 8) hx hb d_D_next_40 (by decide) ?_
  refine cx_ci (wr := []) (wN := [(h0, .inr (0, [.long (bd_w (bd_w3 (bd_so sk (nu + 1) w) (bd_w (bd_w1 (nu + 1) w)))), .int sk, .int pb, .int (nu + 1), .int (bd_so sk (nu + 1) w), .int (bd_c (bd_w1 (nu + 1) w) 1000), .int (bd_b (bd_so sk (nu + 1) w) pb (bd_w (bd_w1 (nu + 1) w))), .int ne, .int mk]))]) (va_runV (As := [.int 8]) (rest := [.int 1, .ref h0]) ⟨hx, hb, hml, hown, hw⟩ (c_D_chance l G D K H.size h0 (bd_w3 (bd_so sk (nu + 1) w) (bd_w (bd_w1 (nu + 1) w))) sk pb (nu + 1) (bd_so sk (nu + 1) w) (bd_c (bd_w1 (nu + 1) w) 1000) (bd_b (bd_so sk (nu + 1) w) pb (bd_w (bd_w1 (nu + 1) w))) ne mk 8) (cwV 1 hw (cx_gV k_116 k_118 ks_D_chance k_2 k_119) rfl rfl rfl (by decide +kernel) ⟨Nat.le_of_ble_eq_true rfl, Nat.le_of_ble_eq_true rfl⟩) (cx_preV (q0 := 0) (ci := 0) hK hP hD hS hA hE rfl rfl [0] rfl rfl (by decide)) rfl rfl hl.1 rfl (lv_room (Nat.le_of_ble_eq_true rfl)) d_D_next_42 ⟨Nat.le_of_ble_eq_true rfl, Nat.le_of_ble_eq_true rfl⟩) hP hD hS hA [0] [] rfl rfl (by decide) (by decide) [0] rfl rfl (by decide) (fun H locs hP hD hS => ?_)
  refine lv_ishl hx hb d_D_next_45 ?_
  refine va_put (D := D) (ci := 0) (v := .int (1 <<< ((bd_c (bd_w3 (bd_so sk (nu + 1) w) (bd_w (bd_w1 (nu + 1) w))) 8) &&& 31))) (ty := .int) (C := "BuildDrawer$Drawing") (T := TD) (N := 9) hx hb hw inD tyD tyD_ok nmD hown hK hP hD hS 0 rfl rfl 8 (by decide) (hw _ k_35) (fun _ h9 => h9) rfl (by decide +kernel) rfl rfl (Nat.le_of_ble_eq_true rfl) d_D_next_46 (fun H locs hP hD hS => ?_)
  have hP : va_P D vwCl [(h0, .inr (0, [.long (bd_w (bd_w3 (bd_so sk (nu + 1) w) (bd_w (bd_w1 (nu + 1) w)))), .int sk, .int pb, .int (nu + 1), .int (bd_so sk (nu + 1) w), .int (bd_c (bd_w1 (nu + 1) w) 1000), .int (bd_b (bd_so sk (nu + 1) w) pb (bd_w (bd_w1 (nu + 1) w))), .int ne, .int (1 <<< ((bd_c (bd_w3 (bd_so sk (nu + 1) w) (bd_w (bd_w1 (nu + 1) w))) 8) &&& 31))]))] H := hP
  have hD : va_D A [(h0, .inr (0, [.long (bd_w (bd_w3 (bd_so sk (nu + 1) w) (bd_w (bd_w1 (nu + 1) w)))), .int sk, .int pb, .int (nu + 1), .int (bd_so sk (nu + 1) w), .int (bd_c (bd_w1 (nu + 1) w) 1000), .int (bd_b (bd_so sk (nu + 1) w) pb (bd_w (bd_w1 (nu + 1) w))), .int ne, .int (1 <<< ((bd_c (bd_w3 (bd_so sk (nu + 1) w) (bd_w (bd_w1 (nu + 1) w))) 8) &&& 31))]))] := hD
  refine lv_aload_n hx hb d_D_next_49 rfl (lv_at hl 0 rfl) ?_
  refine lv_aload_n hx hb d_D_next_50 rfl (lv_at hl 0 rfl) ?_
  refine cx_ci (wr := []) (wN := [(h0, .inr (0, [.long (bd_w5 (nu + 1) (bd_w (bd_w3 (bd_so sk (nu + 1) w) (bd_w (bd_w1 (nu + 1) w))))), .int sk, .int pb, .int (nu + 1), .int (bd_so sk (nu + 1) w), .int (bd_c (bd_w1 (nu + 1) w) 1000), .int (bd_b (bd_so sk (nu + 1) w) pb (bd_w (bd_w1 (nu + 1) w))), .int ne, .int (1 <<< ((bd_c (bd_w3 (bd_so sk (nu + 1) w) (bd_w (bd_w1 (nu + 1) w))) 8) &&& 31))]))]) (va_runV (As := []) (rest := [.ref h0]) ⟨hx, hb, hml, hown, hw⟩ (c_D_nextNeed l G D K H.size h0 (bd_w (bd_w3 (bd_so sk (nu + 1) w) (bd_w (bd_w1 (nu + 1) w)))) sk pb (nu + 1) (bd_so sk (nu + 1) w) (bd_c (bd_w1 (nu + 1) w) 1000) (bd_b (bd_so sk (nu + 1) w) pb (bd_w (bd_w1 (nu + 1) w))) ne (1 <<< ((bd_c (bd_w3 (bd_so sk (nu + 1) w) (bd_w (bd_w1 (nu + 1) w))) 8) &&& 31))) (cwV 0 hw (cx_gV k_141 k_143 ks_D_nextNeed k_2 k_144) rfl rfl rfl (by decide +kernel) ⟨Nat.le_of_ble_eq_true rfl, Nat.le_of_ble_eq_true rfl⟩) (cx_preV (q0 := 0) (ci := 0) hK hP hD hS hA hE rfl rfl [0] rfl rfl (by decide)) rfl rfl hl.1 rfl (lv_room (Nat.le_of_ble_eq_true rfl)) d_D_next_51 ⟨Nat.le_of_ble_eq_true rfl, Nat.le_of_ble_eq_true rfl⟩) hP hD hS hA [0] [] rfl rfl (by decide) (by decide) [0] rfl rfl (by decide) (fun H locs hP hD hS => ?_)
  refine va_put (D := D) (ci := 0) (v := .int (bd_ne (nu + 1) (bd_w (bd_w3 (bd_so sk (nu + 1) w) (bd_w (bd_w1 (nu + 1) w)))))) (ty := .int) (C := "BuildDrawer$Drawing") (T := TD) (N := 9) hx hb hw inD tyD tyD_ok nmD hown hK hP hD hS 0 rfl rfl 7 (by decide) (hw _ k_33) (fun _ h9 => h9) rfl (by decide +kernel) rfl rfl (Nat.le_of_ble_eq_true rfl) d_D_next_54 (fun H locs hP hD hS => ?_)
  have hP : va_P D vwCl [(h0, .inr (0, [.long (bd_w5 (nu + 1) (bd_w (bd_w3 (bd_so sk (nu + 1) w) (bd_w (bd_w1 (nu + 1) w))))), .int sk, .int pb, .int (nu + 1), .int (bd_so sk (nu + 1) w), .int (bd_c (bd_w1 (nu + 1) w) 1000), .int (bd_b (bd_so sk (nu + 1) w) pb (bd_w (bd_w1 (nu + 1) w))), .int (bd_ne (nu + 1) (bd_w (bd_w3 (bd_so sk (nu + 1) w) (bd_w (bd_w1 (nu + 1) w))))), .int (1 <<< ((bd_c (bd_w3 (bd_so sk (nu + 1) w) (bd_w (bd_w1 (nu + 1) w))) 8) &&& 31))]))] H := hP
  have hD : va_D A [(h0, .inr (0, [.long (bd_w5 (nu + 1) (bd_w (bd_w3 (bd_so sk (nu + 1) w) (bd_w (bd_w1 (nu + 1) w))))), .int sk, .int pb, .int (nu + 1), .int (bd_so sk (nu + 1) w), .int (bd_c (bd_w1 (nu + 1) w) 1000), .int (bd_b (bd_so sk (nu + 1) w) pb (bd_w (bd_w1 (nu + 1) w))), .int (bd_ne (nu + 1) (bd_w (bd_w3 (bd_so sk (nu + 1) w) (bd_w (bd_w1 (nu + 1) w))))), .int (1 <<< ((bd_c (bd_w3 (bd_so sk (nu + 1) w) (bd_w (bd_w1 (nu + 1) w))) 8) &&& 31))]))] := hD
  exact cx_vret hx hb hr hlocks hK hP hD hS d_D_next_57 (rfl)
