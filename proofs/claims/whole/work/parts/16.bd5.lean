theorem bd_nm1 {n : Nat} (h : n < 2 ^ 31) : ¬ nI n = -1 := fun e => nI_pos h (by rw [e]; decide)
set_option maxHeartbeats 4000000 in
set_option maxRecDepth 100000 in
theorem c_B_writeSign (l : Launch) (G : cx_G) (D : va_G) (K : cx_KT) (sz : Nat) (h0 : Nat) (seed : Int64) (hM : Nat) (hO : Nat) (cnt : Nat) (aS : Nat) (aA : Nat) (aB : Nat) (aN : Nat) (aM : Nat) (aL : Nat) (vb : Int32) (vs : Int32) (aT : Nat) (n : Nat) (fT : Nat → Int32) (q : Nat) (hn : n < 992) (hq : q < 65536) : Met l y_B_writeSign w_B_writeSign ({ frames := 0, cells := 0, slots := 0, locals := 0 }) (cx_Pc G D (cx_ty K) [(h0, .inr (1, [.long seed, .ref hM, .ref hO, .int (nI cnt), .ref aS, .ref aA, .ref aB, .ref aN, .ref aM, .ref aL, .int vb, .int vs, .ref aT, .int (nI n)])), (aT, .inl (K.2.2, 992, .inl fT))] sz [.ref h0, .int (nI q)]) (cx_Qv D (cx_ty K) [(h0, .inr (1, [.long seed, .ref hM, .ref hO, .int (nI cnt), .ref aS, .ref aA, .ref aB, .ref aN, .ref aM, .ref aL, .int vb, .int vs, .ref aT, .int (nI (n + ([q]).length))])), (aT, .inl (K.2.2, 992, .inl (bd_app fT n ([q]))))] (va_A [(h0, .inr (1, [.long seed, .ref hM, .ref hO, .int (nI cnt), .ref aS, .ref aA, .ref aB, .ref aN, .ref aM, .ref aL, .int vb, .int vs, .ref aT, .int (nI n)])), (aT, .inl (K.2.2, 992, .inl fT))] sz)) 0 0 (va_A [(h0, .inr (1, [.long seed, .ref hM, .ref hO, .int (nI cnt), .ref aS, .ref aA, .ref aB, .ref aN, .ref aM, .ref aL, .int vb, .int vs, .ref aT, .int (nI n)])), (aT, .inl (K.2.2, 992, .inl fT))] sz) := by
  refine Met.ofW (cc := prog_1_method_25_code) (maxL := 2) (ret := none) (by decide) rfl ?_
  intro p e s m args below meth c s₁ B hml hv
  obtain ⟨rfl, hsz, hP, hK, hD0, hE⟩ := hv
  have hx := B.exec
  have hb := B.bytes
  have hr := B.returns
  have hts := atoms_spec (ws := w_B_writeSign) B.pre
  have hw : ∀ w ∈ cw, w.before _ s = true := fun w h => hts w (List.mem_cons_of_mem _ h)
  have hown : s.vm.findClass "BuildDrawer" = some m.cls := findClass_of_methodNamed B.named
  have hlocks := B.notSynchronized
  subst hsz
  have hD := hD0.self (sz := s.heap.size)
  generalize hAe : va_A [(h0, .inr (1, [.long seed, .ref hM, .ref hO, .int (nI cnt), .ref aS, .ref aA, .ref aB, .ref aN, .ref aM, .ref aL, .int vb, .int vs, .ref aT, .int (nI n)])), (aT, .inl (K.2.2, 992, .inl fT))] s.heap.size = A at hD hE ⊢
  have hA : ∀ q : Nat, s.heap.size ≤ q → A q := fun q h => by rw [← hAe]; exact Or.inr h
  have hS : va_S A s.heap s.heap [] := va_S.rf
  have hl := lv_entry ([.ref h0, .int (nI q)]) (n := 2) (Nat.le_of_ble_eq_true rfl)
  rw [lg_entry_eq]
  generalize (lg_sl ([.ref h0, .int (nI q)]) ++ List.replicate (2 - (lg_sl ([.ref h0, .int (nI q)])).length) Slot.unset).toArray = ls at hl ⊢
  have hl : lv_has ls 2 [(0, .ref h0), (1, .int (nI q))] := hl
  refine lv_aload_n hx hb d_B_writeSign_0 rfl (lv_at hl 0 rfl) ?_
  refine va_get (D := D) (ci := 1) (v := .int (nI n)) (C := "BuildDrawer") (T := TB) (N := 14) hx hb hw inB hown hK hP 0 rfl rfl 13 (by decide) (hw _ k_69) (fun _ h9 => h9) rfl d_B_writeSign_1 ?_
  refine lv_if_lt (tgt := 37) hx hb d_B_writeSign_4 (by decide) (fun r_4 => ?_) (fun r_4 => ?_)
  · have c_4 := (nI_ltI (a := n) (b := 0) (by omega) (by omega)).mp r_4
    omega
  · have c_4 := mt (nI_ltI (a := n) (b := 0) (by omega) (by omega)).mpr r_4
    refine lv_aload_n hx hb d_B_writeSign_7 rfl (lv_at hl 0 rfl) ?_
    refine va_get (D := D) (ci := 1) (v := .int (nI n)) (C := "BuildDrawer") (T := TB) (N := 14) hx hb hw inB hown hK hP 0 rfl rfl 13 (by decide) (hw _ k_69) (fun _ h9 => h9) rfl d_B_writeSign_8 ?_
    refine lv_sipush (v := 992) hx hb d_B_writeSign_11 (by decide) ?_
    refine lv_icmp_ge (tgt := 37) hx hb d_B_writeSign_14 (by decide) (fun r_14 => ?_) (fun r_14 => ?_)
    · have c_14 := (nI_leI (a := 992) (b := n) (by omega) (by omega)).mp r_14
      omega
    · have c_14 := mt (nI_leI (a := 992) (b := n) (by omega) (by omega)).mpr r_14
      refine lv_aload_n hx hb d_B_writeSign_17 rfl (lv_at hl 0 rfl) ?_
      refine va_get (D := D) (ci := 1) (v := .ref aT) (C := "BuildDrawer") (T := TB) (N := 14) hx hb hw inB hown hK hP 0 rfl rfl 12 (by decide) (hw _ k_68) (fun _ h9 => h9) rfl d_B_writeSign_18 ?_
      refine lv_aload_n hx hb d_B_writeSign_21 rfl (lv_at hl 0 rfl) ?_
      refine va_get (D := D) (ci := 1) (v := .int (nI n)) (C := "BuildDrawer") (T := TB) (N := 14) hx hb hw inB hown hK hP 0 rfl rfl 13 (by decide) (hw _ k_69) (fun _ h9 => h9) rfl d_B_writeSign_22 ?_
      refine lv_iload_n hx hb d_B_writeSign_25 rfl (lv_at hl 1 rfl) ?_
      refine va_cast hx hb hK hP hD hS 1 2 rfl rfl (vp_in_nI (n := n) (by omega) (by omega)) d_B_writeSign_26 (fun H locs hP hD hS => ?_)
      have e_26 : upd fT (nI n).toNatClampNeg (vp_nar .char (nI q)) = bd_app fT n [q] := by rw [nI_clamp (by omega), bd_nc hq]; exact bd_app1 _ _ _
      have hP : va_P D vwCl [(h0, .inr (1, [.long seed, .ref hM, .ref hO, .int (nI cnt), .ref aS, .ref aA, .ref aB, .ref aN, .ref aM, .ref aL, .int vb, .int vs, .ref aT, .int (nI n)])), (aT, .inl (K.2.2, 992, .inl (upd fT (nI n).toNatClampNeg (vp_nar .char (nI q)))))] H := hP
      have hD : va_D A [(h0, .inr (1, [.long seed, .ref hM, .ref hO, .int (nI cnt), .ref aS, .ref aA, .ref aB, .ref aN, .ref aM, .ref aL, .int vb, .int vs, .ref aT, .int (nI n)])), (aT, .inl (K.2.2, 992, .inl (upd fT (nI n).toNatClampNeg (vp_nar .char (nI q)))))] := hD
      rw [e_26] at hP hD
      have hP : va_P D vwCl [(h0, .inr (1, [.long seed, .ref hM, .ref hO, .int (nI cnt), .ref aS, .ref aA, .ref aB, .ref aN, .ref aM, .ref aL, .int vb, .int vs, .ref aT, .int (nI n)])), (aT, .inl (K.2.2, 992, .inl (bd_app fT n [q])))] H := hP
      have hD : va_D A [(h0, .inr (1, [.long seed, .ref hM, .ref hO, .int (nI cnt), .ref aS, .ref aA, .ref aB, .ref aN, .ref aM, .ref aL, .int vb, .int vs, .ref aT, .int (nI n)])), (aT, .inl (K.2.2, 992, .inl (bd_app fT n [q])))] := hD
      refine lv_aload_n hx hb d_B_writeSign_27 rfl (lv_at hl 0 rfl) ?_
      refine lv_dup hx hb d_B_writeSign_28 rfl ?_
      refine va_get (D := D) (ci := 1) (v := .int (nI n)) (C := "BuildDrawer") (T := TB) (N := 14) hx hb hw inB hown hK hP 0 rfl rfl 13 (by decide) (hw _ k_69) (fun _ h9 => h9) rfl d_B_writeSign_29 ?_
      refine lv_iconst (v := 1) hx hb d_B_writeSign_32 (by decide) ?_
      refine lv_iadd hx hb d_B_writeSign_33 ?_
      refine cx_ti (y := nI (n + 1)) (by exact nI_add n 1) ?_
      refine va_put (D := D) (ci := 1) (v := .int (nI (n + 1))) (ty := .int) (C := "BuildDrawer") (T := TB) (N := 14) hx hb hw inB tyB tyB_ok nmB hown hK hP hD hS 0 rfl rfl 13 (by decide) (hw _ k_69) (fun _ h9 => h9) rfl (by decide +kernel) rfl rfl (Nat.le_of_ble_eq_true rfl) d_B_writeSign_34 (fun H locs hP hD hS => ?_)
      have hP : va_P D vwCl [(h0, .inr (1, [.long seed, .ref hM, .ref hO, .int (nI cnt), .ref aS, .ref aA, .ref aB, .ref aN, .ref aM, .ref aL, .int vb, .int vs, .ref aT, .int (nI (n + 1))])), (aT, .inl (K.2.2, 992, .inl (bd_app fT n [q])))] H := hP
      have hD : va_D A [(h0, .inr (1, [.long seed, .ref hM, .ref hO, .int (nI cnt), .ref aS, .ref aA, .ref aB, .ref aN, .ref aM, .ref aL, .int vb, .int vs, .ref aT, .int (nI (n + 1))])), (aT, .inl (K.2.2, 992, .inl (bd_app fT n [q])))] := hD
      exact cx_vret hx hb hr hlocks hK hP hD hS d_B_writeSign_37 (rfl)
set_option maxHeartbeats 4000000 in
set_option maxRecDepth 100000 in
theorem c_B_writeDigit (l : Launch) (G : cx_G) (D : va_G) (K : cx_KT) (sz : Nat) (h0 : Nat) (seed : Int64) (hM : Nat) (hO : Nat) (cnt : Nat) (aS : Nat) (aA : Nat) (aB : Nat) (aN : Nat) (aM : Nat) (aL : Nat) (vb : Int32) (vs : Int32) (aT : Nat) (n : Nat) (fT : Nat → Int32) (q : Nat) (hn : n < 992) (hq : q < 10) : Met l y_B_writeDigit w_B_writeDigit ({ frames := 1, cells := 0, slots := 0, locals := 21 }) (cx_Pc G D (cx_ty K) [(h0, .inr (1, [.long seed, .ref hM, .ref hO, .int (nI cnt), .ref aS, .ref aA, .ref aB, .ref aN, .ref aM, .ref aL, .int vb, .int vs, .ref aT, .int (nI n)])), (aT, .inl (K.2.2, 992, .inl fT))] sz [.ref h0, .int (nI q)]) (cx_Qv D (cx_ty K) [(h0, .inr (1, [.long seed, .ref hM, .ref hO, .int (nI cnt), .ref aS, .ref aA, .ref aB, .ref aN, .ref aM, .ref aL, .int vb, .int vs, .ref aT, .int (nI (n + ([48 + q]).length))])), (aT, .inl (K.2.2, 992, .inl (bd_app fT n ([48 + q]))))] (va_A [(h0, .inr (1, [.long seed, .ref hM, .ref hO, .int (nI cnt), .ref aS, .ref aA, .ref aB, .ref aN, .ref aM, .ref aL, .int vb, .int vs, .ref aT, .int (nI n)])), (aT, .inl (K.2.2, 992, .inl fT))] sz)) 0 0 (va_A [(h0, .inr (1, [.long seed, .ref hM, .ref hO, .int (nI cnt), .ref aS, .ref aA, .ref aB, .ref aN, .ref aM, .ref aL, .int vb, .int vs, .ref aT, .int (nI n)])), (aT, .inl (K.2.2, 992, .inl fT))] sz) := by
  refine Met.ofW (cc := prog_1_method_24_code) (maxL := 2) (ret := none) (by decide) rfl ?_
  intro p e s m args below meth c s₁ B hml hv
  obtain ⟨rfl, hsz, hP, hK, hD0, hE⟩ := hv
  have hx := B.exec
  have hb := B.bytes
  have hr := B.returns
  have hts := atoms_spec (ws := w_B_writeDigit) B.pre
  have hw : ∀ w ∈ cw, w.before _ s = true := fun w h => hts w (List.mem_cons_of_mem _ h)
  have hown : s.vm.findClass "BuildDrawer" = some m.cls := findClass_of_methodNamed B.named
  have hlocks := B.notSynchronized
  subst hsz
  have hD := hD0.self (sz := s.heap.size)
  generalize hAe : va_A [(h0, .inr (1, [.long seed, .ref hM, .ref hO, .int (nI cnt), .ref aS, .ref aA, .ref aB, .ref aN, .ref aM, .ref aL, .int vb, .int vs, .ref aT, .int (nI n)])), (aT, .inl (K.2.2, 992, .inl fT))] s.heap.size = A at hD hE ⊢
  have hA : ∀ q : Nat, s.heap.size ≤ q → A q := fun q h => by rw [← hAe]; exact Or.inr h
  have hS : va_S A s.heap s.heap [] := va_S.rf
  have hl := lv_entry ([.ref h0, .int (nI q)]) (n := 2) (Nat.le_of_ble_eq_true rfl)
  rw [lg_entry_eq]
  generalize (lg_sl ([.ref h0, .int (nI q)]) ++ List.replicate (2 - (lg_sl ([.ref h0, .int (nI q)])).length) Slot.unset).toArray = ls at hl ⊢
  have hl : lv_has ls 2 [(0, .ref h0), (1, .int (nI q))] := hl
  refine lv_aload_n hx hb d_B_writeDigit_0 rfl (lv_at hl 0 rfl) ?_
  refine lv_bipush (v := 48) hx hb d_B_writeDigit_1 (by decide) ?_
  refine lv_iload_n hx hb d_B_writeDigit_3 rfl (lv_at hl 1 rfl) ?_
  refine lv_iadd hx hb d_B_writeDigit_4 ?_
  refine cx_ti (y := nI (48 + q)) (by exact nI_add 48 q) ?_
  refine lv_i2c (v := nI (48 + q)) hx hb d_B_writeDigit_5 (bd_c16 (by omega)) ?_
  refine cx_cv (wr := []) (wN := [(h0, .inr (1, [.long seed, .ref hM, .ref hO, .int (nI cnt), .ref aS, .ref aA, .ref aB, .ref aN, .ref aM, .ref aL, .int vb, .int vs, .ref aT, .int (nI (n + ([48 + q]).length))])), (aT, .inl (K.2.2, 992, .inl (bd_app fT n ([48 + q]))))]) (va_runV (As := [.int (nI (48 + q))]) (rest := []) ⟨hx, hb, hml, hown, hw⟩ (c_B_writeSign l G D K s.heap.size h0 seed hM hO cnt aS aA aB aN aM aL vb vs aT n fT (48 + q) (by omega) (by omega)) (cwV 1 hw (cx_gV k_233 k_235 ks_B_writeSign k_1 k_236) rfl rfl rfl (by decide +kernel) ⟨Nat.le_of_ble_eq_true rfl, Nat.le_of_ble_eq_true rfl⟩) (cx_preV (q0 := 0) (ci := 1) hK hP hD hS hA hE rfl rfl [0, 1] rfl rfl (by decide)) rfl rfl hl.1 rfl (lv_room (Nat.le_of_ble_eq_true rfl)) d_B_writeDigit_6 ⟨Nat.le_of_ble_eq_true rfl, Nat.le_of_ble_eq_true rfl⟩) hP hD hS hA [0, 1] [] rfl rfl (by decide) (by decide) [0, 1] rfl rfl (by decide) (fun H locs hP hD hS => ?_)
  exact cx_vret hx hb hr hlocks hK hP hD hS d_B_writeDigit_9 (rfl)
set_option maxHeartbeats 4000000 in
set_option maxRecDepth 100000 in
theorem c_B_writeNumber (l : Launch) (G : cx_G) (D : va_G) (K : cx_KT) (sz : Nat) (h0 : Nat) (seed : Int64) (hM : Nat) (hO : Nat) (cnt : Nat) (aS : Nat) (aA : Nat) (aB : Nat) (aN : Nat) (aM : Nat) (aL : Nat) (vb : Int32) (vs : Int32) (aT : Nat) (n : Nat) (fT : Nat → Int32) (q : Nat) (hn : n + 3 ≤ 992) (hq : q < 1000) : Met l y_B_writeNumber w_B_writeNumber ({ frames := 2, cells := 0, slots := 0, locals := 42 }) (cx_Pc G D (cx_ty K) [(h0, .inr (1, [.long seed, .ref hM, .ref hO, .int (nI cnt), .ref aS, .ref aA, .ref aB, .ref aN, .ref aM, .ref aL, .int vb, .int vs, .ref aT, .int (nI n)])), (aT, .inl (K.2.2, 992, .inl fT))] sz [.ref h0, .int (nI q)]) (cx_Qv D (cx_ty K) [(h0, .inr (1, [.long seed, .ref hM, .ref hO, .int (nI cnt), .ref aS, .ref aA, .ref aB, .ref aN, .ref aM, .ref aL, .int vb, .int vs, .ref aT, .int (nI (n + (bd_dg q).length))])), (aT, .inl (K.2.2, 992, .inl (bd_app fT n (bd_dg q))))] (va_A [(h0, .inr (1, [.long seed, .ref hM, .ref hO, .int (nI cnt), .ref aS, .ref aA, .ref aB, .ref aN, .ref aM, .ref aL, .int vb, .int vs, .ref aT, .int (nI n)])), (aT, .inl (K.2.2, 992, .inl fT))] sz)) 0 0 (va_A [(h0, .inr (1, [.long seed, .ref hM, .ref hO, .int (nI cnt), .ref aS, .ref aA, .ref aB, .ref aN, .ref aM, .ref aL, .int vb, .int vs, .ref aT, .int (nI n)])), (aT, .inl (K.2.2, 992, .inl fT))] sz) := by
  refine Met.ofW (cc := prog_1_method_23_code) (maxL := 2) (ret := none) (by decide) rfl ?_
  intro p e s m args below meth c s₁ B hml hv
  obtain ⟨rfl, hsz, hP, hK, hD0, hE⟩ := hv
  have hx := B.exec
  have hb := B.bytes
  have hr := B.returns
  have hts := atoms_spec (ws := w_B_writeNumber) B.pre
  have hw : ∀ w ∈ cw, w.before _ s = true := fun w h => hts w (List.mem_cons_of_mem _ h)
  have hown : s.vm.findClass "BuildDrawer" = some m.cls := findClass_of_methodNamed B.named
  have hlocks := B.notSynchronized
  subst hsz
  have hD := hD0.self (sz := s.heap.size)
  generalize hAe : va_A [(h0, .inr (1, [.long seed, .ref hM, .ref hO, .int (nI cnt), .ref aS, .ref aA, .ref aB, .ref aN, .ref aM, .ref aL, .int vb, .int vs, .ref aT, .int (nI n)])), (aT, .inl (K.2.2, 992, .inl fT))] s.heap.size = A at hD hE ⊢
  have hA : ∀ q : Nat, s.heap.size ≤ q → A q := fun q h => by rw [← hAe]; exact Or.inr h
  have hS : va_S A s.heap s.heap [] := va_S.rf
  have hl := lv_entry ([.ref h0, .int (nI q)]) (n := 2) (Nat.le_of_ble_eq_true rfl)
  rw [lg_entry_eq]
  generalize (lg_sl ([.ref h0, .int (nI q)]) ++ List.replicate (2 - (lg_sl ([.ref h0, .int (nI q)])).length) Slot.unset).toArray = ls at hl ⊢
  have hl : lv_has ls 2 [(0, .ref h0), (1, .int (nI q))] := hl
  refine lv_iload_n hx hb d_B_writeNumber_0 rfl (lv_at hl 1 rfl) ?_
  refine lv_bipush (v := 100) hx hb d_B_writeNumber_1 (by decide) ?_
  refine lv_icmp_lt (tgt := 14) hx hb d_B_writeNumber_3 (by decide) (fun r_3 => ?_) (fun r_3 => ?_)
  · have c_3 := (nI_ltI (a := q) (b := 100) (by omega) (by omega)).mp r_3
    refine lv_iload_n hx hb d_B_writeNumber_14 rfl (lv_at hl 1 rfl) ?_
    refine lv_bipush (v := 10) hx hb d_B_writeNumber_15 (by decide) ?_
    refine lv_icmp_lt (tgt := 31) hx hb d_B_writeNumber_17 (by decide) (fun r_17 => ?_) (fun r_17 => ?_)
    · have c_17 := (nI_ltI (a := q) (b := 10) (by omega) (by omega)).mp r_17
      refine lv_aload_n hx hb d_B_writeNumber_31 rfl (lv_at hl 0 rfl) ?_
      refine lv_iload_n hx hb d_B_writeNumber_32 rfl (lv_at hl 1 rfl) ?_
      refine lv_bipush (v := 10) hx hb d_B_writeNumber_33 (by decide) ?_
      refine lv_irem hx hb d_B_writeNumber_35 (by decide) ?_
      refine cx_ti (y := nI (q % 10)) (by exact pk_rem (a := q) (d := 10) (by omega) (by omega) (by omega)) ?_
      refine cx_cv (wr := []) (wN := [(h0, .inr (1, [.long seed, .ref hM, .ref hO, .int (nI cnt), .ref aS, .ref aA, .ref aB, .ref aN, .ref aM, .ref aL, .int vb, .int vs, .ref aT, .int (nI (n + ([48 + (q % 10)]).length))])), (aT, .inl (K.2.2, 992, .inl (bd_app fT n ([48 + (q % 10)]))))]) (va_runV (As := [.int (nI (q % 10))]) (rest := []) ⟨hx, hb, hml, hown, hw⟩ (c_B_writeDigit l G D K s.heap.size h0 seed hM hO cnt aS aA aB aN aM aL vb vs aT n fT (q % 10) (by omega) (by omega)) (cwV 1 hw (cx_gV k_241 k_243 ks_B_writeDigit k_1 k_244) rfl rfl rfl (by decide +kernel) ⟨Nat.le_of_ble_eq_true rfl, Nat.le_of_ble_eq_true rfl⟩) (cx_preV (q0 := 0) (ci := 1) hK hP hD hS hA hE rfl rfl [0, 1] rfl rfl (by decide)) rfl rfl hl.1 rfl (lv_room (Nat.le_of_ble_eq_true rfl)) d_B_writeNumber_36 ⟨Nat.le_of_ble_eq_true rfl, Nat.le_of_ble_eq_true rfl⟩) hP hD hS hA [0, 1] [] rfl rfl (by decide) (by decide) [0, 1] rfl rfl (by decide) (fun H locs hP hD hS => ?_)
      have hP : va_P D vwCl [(h0, .inr (1, [.long seed, .ref hM, .ref hO, .int (nI cnt), .ref aS, .ref aA, .ref aB, .ref aN, .ref aM, .ref aL, .int vb, .int vs, .ref aT, .int (nI (n + ([48 + (q % 10)]).length))])), (aT, .inl (K.2.2, 992, .inl (bd_app fT n ([48 + (q % 10)]))))] H := hP
      have hD : va_D A [(h0, .inr (1, [.long seed, .ref hM, .ref hO, .int (nI cnt), .ref aS, .ref aA, .ref aB, .ref aN, .ref aM, .ref aL, .int vb, .int vs, .ref aT, .int (nI (n + ([48 + (q % 10)]).length))])), (aT, .inl (K.2.2, 992, .inl (bd_app fT n ([48 + (q % 10)]))))] := hD
      exact cx_vret hx hb hr hlocks hK hP hD hS d_B_writeNumber_39 (by rw [show bd_dg q = [48 + (q % 10)] by rw [bd_dg, if_pos c_3, if_pos c_17]])
    · have c_17 := mt (nI_ltI (a := q) (b := 10) (by omega) (by omega)).mpr r_17
      refine lv_aload_n hx hb d_B_writeNumber_20 rfl (lv_at hl 0 rfl) ?_
      refine lv_iload_n hx hb d_B_writeNumber_21 rfl (lv_at hl 1 rfl) ?_
      refine lv_bipush (v := 10) hx hb d_B_writeNumber_22 (by decide) ?_
      refine lv_idiv hx hb d_B_writeNumber_24 (by decide) ?_
      refine cx_ti (y := nI (q / 10)) (by exact pk_div (a := q) (d := 10) (by omega) (by omega) (by omega)) ?_
      refine lv_bipush (v := 10) hx hb d_B_writeNumber_25 (by decide) ?_
      refine lv_irem hx hb d_B_writeNumber_27 (by decide) ?_
      refine cx_ti (y := nI (q / 10 % 10)) (by exact pk_rem (a := q / 10) (d := 10) (by omega) (by omega) (by omega)) ?_
      refine cx_cv (wr := []) (wN := [(h0, .inr (1, [.long seed, .ref hM, .ref hO, .int (nI cnt), .ref aS, .ref aA, .ref aB, .ref aN, .ref aM, .ref aL, .int vb, .int vs, .ref aT, .int (nI (n + ([48 + (q / 10 % 10)]).length))])), (aT, .inl (K.2.2, 992, .inl (bd_app fT n ([48 + (q / 10 % 10)]))))]) (va_runV (As := [.int (nI (q / 10 % 10))]) (rest := []) ⟨hx, hb, hml, hown, hw⟩ (c_B_writeDigit l G D K s.heap.size h0 seed hM hO cnt aS aA aB aN aM aL vb vs aT n fT (q / 10 % 10) (by omega) (by omega)) (cwV 1 hw (cx_gV k_241 k_243 ks_B_writeDigit k_1 k_244) rfl rfl rfl (by decide +kernel) ⟨Nat.le_of_ble_eq_true rfl, Nat.le_of_ble_eq_true rfl⟩) (cx_preV (q0 := 0) (ci := 1) hK hP hD hS hA hE rfl rfl [0, 1] rfl rfl (by decide)) rfl rfl hl.1 rfl (lv_room (Nat.le_of_ble_eq_true rfl)) d_B_writeNumber_28 ⟨Nat.le_of_ble_eq_true rfl, Nat.le_of_ble_eq_true rfl⟩) hP hD hS hA [0, 1] [] rfl rfl (by decide) (by decide) [0, 1] rfl rfl (by decide) (fun H locs hP hD hS => ?_)
      have hP : va_P D vwCl [(h0, .inr (1, [.long seed, .ref hM, .ref hO, .int (nI cnt), .ref aS, .ref aA, .ref aB, .ref aN, .ref aM, .ref aL, .int vb, .int vs, .ref aT, .int (nI (n + ([48 + (q / 10 % 10)]).length))])), (aT, .inl (K.2.2, 992, .inl (bd_app fT n ([48 + (q / 10 % 10)]))))] H := hP
      have hD : va_D A [(h0, .inr (1, [.long seed, .ref hM, .ref hO, .int (nI cnt), .ref aS, .ref aA, .ref aB, .ref aN, .ref aM, .ref aL, .int vb, .int vs, .ref aT, .int (nI (n + ([48 + (q / 10 % 10)]).length))])), (aT, .inl (K.2.2, 992, .inl (bd_app fT n ([48 + (q / 10 % 10)]))))] := hD
      refine lv_aload_n hx hb d_B_writeNumber_31 rfl (lv_at hl 0 rfl) ?_
      refine lv_iload_n hx hb d_B_writeNumber_32 rfl (lv_at hl 1 rfl) ?_
      refine lv_bipush (v := 10) hx hb d_B_writeNumber_33 (by decide) ?_
      refine lv_irem hx hb d_B_writeNumber_35 (by decide) ?_
      refine cx_ti (y := nI (q % 10)) (by exact pk_rem (a := q) (d := 10) (by omega) (by omega) (by omega)) ?_
      refine cx_cv (wr := []) (wN := [(h0, .inr (1, [.long seed, .ref hM, .ref hO, .int (nI cnt), .ref aS, .ref aA, .ref aB, .ref aN, .ref aM, .ref aL, .int vb, .int vs, .ref aT, .int (nI (n + ([48 + (q / 10 % 10)]).length + ([48 + (q % 10)]).length))])), (aT, .inl (K.2.2, 992, .inl (bd_app (bd_app fT n ([48 + (q / 10 % 10)])) (n + ([48 + (q / 10 % 10)]).length) ([48 + (q % 10)]))))]) (va_runV (As := [.int (nI (q % 10))]) (rest := []) ⟨hx, hb, hml, hown, hw⟩ (c_B_writeDigit l G D K H.size h0 seed hM hO cnt aS aA aB aN aM aL vb vs aT (n + ([48 + (q / 10 % 10)]).length) (bd_app fT n ([48 + (q / 10 % 10)])) (q % 10) (by simp only [List.length_append, List.length_cons, List.length_nil]; omega) (by omega)) (cwV 1 hw (cx_gV k_241 k_243 ks_B_writeDigit k_1 k_244) rfl rfl rfl (by decide +kernel) ⟨Nat.le_of_ble_eq_true rfl, Nat.le_of_ble_eq_true rfl⟩) (cx_preV (q0 := 0) (ci := 1) hK hP hD hS hA hE rfl rfl [0, 1] rfl rfl (by decide)) rfl rfl hl.1 rfl (lv_room (Nat.le_of_ble_eq_true rfl)) d_B_writeNumber_36 ⟨Nat.le_of_ble_eq_true rfl, Nat.le_of_ble_eq_true rfl⟩) hP hD hS hA [0, 1] [] rfl rfl (by decide) (by decide) [0, 1] rfl rfl (by decide) (fun H locs hP hD hS => ?_)
      rw [bd_app_app, bd_tl] at hP hD
      have hP : va_P D vwCl [(h0, .inr (1, [.long seed, .ref hM, .ref hO, .int (nI cnt), .ref aS, .ref aA, .ref aB, .ref aN, .ref aM, .ref aL, .int vb, .int vs, .ref aT, .int (nI (n + ([48 + (q / 10 % 10)] ++ [48 + (q % 10)]).length))])), (aT, .inl (K.2.2, 992, .inl (bd_app fT n ([48 + (q / 10 % 10)] ++ [48 + (q % 10)]))))] H := hP
      have hD : va_D A [(h0, .inr (1, [.long seed, .ref hM, .ref hO, .int (nI cnt), .ref aS, .ref aA, .ref aB, .ref aN, .ref aM, .ref aL, .int vb, .int vs, .ref aT, .int (nI (n + ([48 + (q / 10 % 10)] ++ [48 + (q % 10)]).length))])), (aT, .inl (K.2.2, 992, .inl (bd_app fT n ([48 + (q / 10 % 10)] ++ [48 + (q % 10)]))))] := hD
      exact cx_vret hx hb hr hlocks hK hP hD hS d_B_writeNumber_39 (by rw [show bd_dg q = [48 + (q / 10 % 10)] ++ [48 + (q % 10)] by rw [bd_dg, if_pos c_3, if_neg c_17]])
  · have c_3 := mt (nI_ltI (a := q) (b := 100) (by omega) (by omega)).mpr r_3
    refine lv_aload_n hx hb d_B_writeNumber_6 rfl (lv_at hl 0 rfl) ?_
    refine lv_iload_n hx hb d_B_writeNumber_7 rfl (lv_at hl 1 rfl) ?_
    refine lv_bipush (v := 100) hx hb d_B_writeNumber_8 (by decide) ?_
    refine lv_idiv hx hb d_B_writeNumber_10 (by decide) ?_
    refine cx_ti (y := nI (q / 100)) (by exact pk_div (a := q) (d := 100) (by omega) (by omega) (by omega)) ?_
    refine cx_cv (wr := []) (wN := [(h0, .inr (1, [.long seed, .ref hM, .ref hO, .int (nI cnt), .ref aS, .ref aA, .ref aB, .ref aN, .ref aM, .ref aL, .int vb, .int vs, .ref aT, .int (nI (n + ([48 + (q / 100)]).length))])), (aT, .inl (K.2.2, 992, .inl (bd_app fT n ([48 + (q / 100)]))))]) (va_runV (As := [.int (nI (q / 100))]) (rest := []) ⟨hx, hb, hml, hown, hw⟩ (c_B_writeDigit l G D K s.heap.size h0 seed hM hO cnt aS aA aB aN aM aL vb vs aT n fT (q / 100) (by omega) (by omega)) (cwV 1 hw (cx_gV k_241 k_243 ks_B_writeDigit k_1 k_244) rfl rfl rfl (by decide +kernel) ⟨Nat.le_of_ble_eq_true rfl, Nat.le_of_ble_eq_true rfl⟩) (cx_preV (q0 := 0) (ci := 1) hK hP hD hS hA hE rfl rfl [0, 1] rfl rfl (by decide)) rfl rfl hl.1 rfl (lv_room (Nat.le_of_ble_eq_true rfl)) d_B_writeNumber_11 ⟨Nat.le_of_ble_eq_true rfl, Nat.le_of_ble_eq_true rfl⟩) hP hD hS hA [0, 1] [] rfl rfl (by decide) (by decide) [0, 1] rfl rfl (by decide) (fun H locs hP hD hS => ?_)
    have hP : va_P D vwCl [(h0, .inr (1, [.long seed, .ref hM, .ref hO, .int (nI cnt), .ref aS, .ref aA, .ref aB, .ref aN, .ref aM, .ref aL, .int vb, .int vs, .ref aT, .int (nI (n + ([48 + (q / 100)]).length))])), (aT, .inl (K.2.2, 992, .inl (bd_app fT n ([48 + (q / 100)]))))] H := hP
    have hD : va_D A [(h0, .inr (1, [.long seed, .ref hM, .ref hO, .int (nI cnt), .ref aS, .ref aA, .ref aB, .ref aN, .ref aM, .ref aL, .int vb, .int vs, .ref aT, .int (nI (n + ([48 + (q / 100)]).length))])), (aT, .inl (K.2.2, 992, .inl (bd_app fT n ([48 + (q / 100)]))))] := hD
    refine lv_iload_n hx hb d_B_writeNumber_14 rfl (lv_at hl 1 rfl) ?_
    refine lv_bipush (v := 10) hx hb d_B_writeNumber_15 (by decide) ?_
    refine lv_icmp_lt (tgt := 31) hx hb d_B_writeNumber_17 (by decide) (fun r_17 => ?_) (fun r_17 => ?_)
    · have c_17 := (nI_ltI (a := q) (b := 10) (by omega) (by omega)).mp r_17
      omega
    · have c_17 := mt (nI_ltI (a := q) (b := 10) (by omega) (by omega)).mpr r_17
      refine lv_aload_n hx hb d_B_writeNumber_20 rfl (lv_at hl 0 rfl) ?_
      refine lv_iload_n hx hb d_B_writeNumber_21 rfl (lv_at hl 1 rfl) ?_
      refine lv_bipush (v := 10) hx hb d_B_writeNumber_22 (by decide) ?_
      refine lv_idiv hx hb d_B_writeNumber_24 (by decide) ?_
      refine cx_ti (y := nI (q / 10)) (by exact pk_div (a := q) (d := 10) (by omega) (by omega) (by omega)) ?_
      refine lv_bipush (v := 10) hx hb d_B_writeNumber_25 (by decide) ?_
      refine lv_irem hx hb d_B_writeNumber_27 (by decide) ?_
      refine cx_ti (y := nI (q / 10 % 10)) (by exact pk_rem (a := q / 10) (d := 10) (by omega) (by omega) (by omega)) ?_
      refine cx_cv (wr := []) (wN := [(h0, .inr (1, [.long seed, .ref hM, .ref hO, .int (nI cnt), .ref aS, .ref aA, .ref aB, .ref aN, .ref aM, .ref aL, .int vb, .int vs, .ref aT, .int (nI (n + ([48 + (q / 100)]).length + ([48 + (q / 10 % 10)]).length))])), (aT, .inl (K.2.2, 992, .inl (bd_app (bd_app fT n ([48 + (q / 100)])) (n + ([48 + (q / 100)]).length) ([48 + (q / 10 % 10)]))))]) (va_runV (As := [.int (nI (q / 10 % 10))]) (rest := []) ⟨hx, hb, hml, hown, hw⟩ (c_B_writeDigit l G D K H.size h0 seed hM hO cnt aS aA aB aN aM aL vb vs aT (n + ([48 + (q / 100)]).length) (bd_app fT n ([48 + (q / 100)])) (q / 10 % 10) (by simp only [List.length_append, List.length_cons, List.length_nil]; omega) (by omega)) (cwV 1 hw (cx_gV k_241 k_243 ks_B_writeDigit k_1 k_244) rfl rfl rfl (by decide +kernel) ⟨Nat.le_of_ble_eq_true rfl, Nat.le_of_ble_eq_true rfl⟩) (cx_preV (q0 := 0) (ci := 1) hK hP hD hS hA hE rfl rfl [0, 1] rfl rfl (by decide)) rfl rfl hl.1 rfl (lv_room (Nat.le_of_ble_eq_true rfl)) d_B_writeNumber_28 ⟨Nat.le_of_ble_eq_true rfl, Nat.le_of_ble_eq_true rfl⟩) hP hD hS hA [0, 1] [] rfl rfl (by decide) (by decide) [0, 1] rfl rfl (by decide) (fun H locs hP hD hS => ?_)
      rw [bd_app_app, bd_tl] at hP hD
      have hP : va_P D vwCl [(h0, .inr (1, [.long seed, .ref hM, .ref hO, .int (nI cnt), .ref aS, .ref aA, .ref aB, .ref aN, .ref aM, .ref aL, .int vb, .int vs, .ref aT, .int (nI (n + ([48 + (q / 100)] ++ [48 + (q / 10 % 10)]).length))])), (aT, .inl (K.2.2, 992, .inl (bd_app fT n ([48 + (q / 100)] ++ [48 + (q / 10 % 10)]))))] H := hP
      have hD : va_D A [(h0, .inr (1, [.long seed, .ref hM, .ref hO, .int (nI cnt), .ref aS, .ref aA, .ref aB, .ref aN, .ref aM, .ref aL, .int vb, .int vs, .ref aT, .int (nI (n + ([48 + (q / 100)] ++ [48 + (q / 10 % 10)]).length))])), (aT, .inl (K.2.2, 992, .inl (bd_app fT n ([48 + (q / 100)] ++ [48 + (q / 10 % 10)]))))] := hD
      refine lv_aload_n hx hb d_B_writeNumber_31 rfl (lv_at hl 0 rfl) ?_
      refine lv_iload_n hx hb d_B_writeNumber_32 rfl (lv_at hl 1 rfl) ?_
      refine lv_bipush (v := 10) hx hb d_B_writeNumber_33 (by decide) ?_
      refine lv_irem hx hb d_B_writeNumber_35 (by decide) ?_
      refine cx_ti (y := nI (q % 10)) (by exact pk_rem (a := q) (d := 10) (by omega) (by omega) (by omega)) ?_
      refine cx_cv (wr := []) (wN := [(h0, .inr (1, [.long seed, .ref hM, .ref hO, .int (nI cnt), .ref aS, .ref aA, .ref aB, .ref aN, .ref aM, .ref aL, .int vb, .int vs, .ref aT, .int (nI (n + ([48 + (q / 100)] ++ [48 + (q / 10 % 10)]).length + ([48 + (q % 10)]).length))])), (aT, .inl (K.2.2, 992, .inl (bd_app (bd_app fT n ([48 + (q / 100)] ++ [48 + (q / 10 % 10)])) (n + ([48 + (q / 100)] ++ [48 + (q / 10 % 10)]).length) ([48 + (q % 10)]))))]) (va_runV (As := [.int (nI (q % 10))]) (rest := []) ⟨hx, hb, hml, hown, hw⟩ (c_B_writeDigit l G D K H.size h0 seed hM hO cnt aS aA aB aN aM aL vb vs aT (n + ([48 + (q / 100)] ++ [48 + (q / 10 % 10)]).length) (bd_app fT n ([48 + (q / 100)] ++ [48 + (q / 10 % 10)])) (q % 10) (by simp only [List.length_append, List.length_cons, List.length_nil]; omega) (by omega)) (cwV 1 hw (cx_gV k_241 k_243 ks_B_writeDigit k_1 k_244) rfl rfl rfl (by decide +kernel) ⟨Nat.le_of_ble_eq_true rfl, Nat.le_of_ble_eq_true rfl⟩) (cx_preV (q0 := 0) (ci := 1) hK hP hD hS hA hE rfl rfl [0, 1] rfl rfl (by decide)) rfl rfl hl.1 rfl (lv_room (Nat.le_of_ble_eq_true rfl)) d_B_writeNumber_36 ⟨Nat.le_of_ble_eq_true rfl, Nat.le_of_ble_eq_true rfl⟩) hP hD hS hA [0, 1] [] rfl rfl (by decide) (by decide) [0, 1] rfl rfl (by decide) (fun H locs hP hD hS => ?_)
      rw [bd_app_app, bd_tl] at hP hD
      have hP : va_P D vwCl [(h0, .inr (1, [.long seed, .ref hM, .ref hO, .int (nI cnt), .ref aS, .ref aA, .ref aB, .ref aN, .ref aM, .ref aL, .int vb, .int vs, .ref aT, .int (nI (n + ([48 + (q / 100)] ++ [48 + (q / 10 % 10)] ++ [48 + (q % 10)]).length))])), (aT, .inl (K.2.2, 992, .inl (bd_app fT n ([48 + (q / 100)] ++ [48 + (q / 10 % 10)] ++ [48 + (q % 10)]))))] H := hP
      have hD : va_D A [(h0, .inr (1, [.long seed, .ref hM, .ref hO, .int (nI cnt), .ref aS, .ref aA, .ref aB, .ref aN, .ref aM, .ref aL, .int vb, .int vs, .ref aT, .int (nI (n + ([48 + (q / 100)] ++ [48 + (q / 10 % 10)] ++ [48 + (q % 10)]).length))])), (aT, .inl (K.2.2, 992, .inl (bd_app fT n ([48 + (q / 100)] ++ [48 + (q / 10 % 10)] ++ [48 + (q % 10)]))))] := hD
      exact cx_vret hx hb hr hlocks hK hP hD hS d_B_writeNumber_39 (by rw [show bd_dg q = [48 + (q / 100)] ++ [48 + (q / 10 % 10)] ++ [48 + (q % 10)] by rw [bd_dg, if_neg c_3]])
set_option maxHeartbeats 4000000 in
set_option maxRecDepth 100000 in
theorem c_B_writePart (l : Launch) (G : cx_G) (D : va_G) (K : cx_KT) (sz : Nat) (h0 : Nat) (seed : Int64) (hM : Nat) (hO : Nat) (cnt : Nat) (aS : Nat) (aA : Nat) (aB : Nat) (aN : Nat) (aM : Nat) (aL : Nat) (vb : Int32) (vs : Int32) (aT : Nat) (n : Nat) (fS : Nat → Int32) (fA : Nat → Int32) (fB : Nat → Int32) (fN : Nat → Int32) (fT : Nat → Int32) (k : Nat) (hcnt : cnt ≤ 62) (hk : k < cnt) (hn : n + 16 ≤ 992) (hok : bd_ok (fS k) (fA k) (fB k) (fN k)) : Met l y_B_writePart w_B_writePart ({ frames := 5, cells := 0, slots := 0, locals := 105 }) (cx_Pc G D (cx_ty K) [(h0, .inr (1, [.long seed, .ref hM, .ref hO, .int (nI cnt), .ref aS, .ref aA, .ref aB, .ref aN, .ref aM, .ref aL, .int vb, .int vs, .ref aT, .int (nI n)])), (aS, .inl (K.1, 62, .inl fS)), (aA, .inl (K.1, 62, .inl fA)), (aB, .inl (K.1, 62, .inl fB)), (aN, .inl (K.1, 62, .inl fN)), (aT, .inl (K.2.2, 992, .inl fT))] sz [.ref h0, .int (nI k)]) (cx_Qv D (cx_ty K) [(h0, .inr (1, [.long seed, .ref hM, .ref hO, .int (nI cnt), .ref aS, .ref aA, .ref aB, .ref aN, .ref aM, .ref aL, .int vb, .int vs, .ref aT, .int (nI (n + (bd_pt k (fS k) (fA k) (fB k) (fN k)).length))])), (aS, .inl (K.1, 62, .inl fS)), (aA, .inl (K.1, 62, .inl fA)), (aB, .inl (K.1, 62, .inl fB)), (aN, .inl (K.1, 62, .inl fN)), (aT, .inl (K.2.2, 992, .inl (bd_app fT n (bd_pt k (fS k) (fA k) (fB k) (fN k)))))] (va_A [(h0, .inr (1, [.long seed, .ref hM, .ref hO, .int (nI cnt), .ref aS, .ref aA, .ref aB, .ref aN, .ref aM, .ref aL, .int vb, .int vs, .ref aT, .int (nI n)])), (aS, .inl (K.1, 62, .inl fS)), (aA, .inl (K.1, 62, .inl fA)), (aB, .inl (K.1, 62, .inl fB)), (aN, .inl (K.1, 62, .inl fN)), (aT, .inl (K.2.2, 992, .inl fT))] sz)) 0 0 (va_A [(h0, .inr (1, [.long seed, .ref hM, .ref hO, .int (nI cnt), .ref aS, .ref aA, .ref aB, .ref aN, .ref aM, .ref aL, .int vb, .int vs, .ref aT, .int (nI n)])), (aS, .inl (K.1, 62, .inl fS)), (aA, .inl (K.1, 62, .inl fA)), (aB, .inl (K.1, 62, .inl fB)), (aN, .inl (K.1, 62, .inl fN)), (aT, .inl (K.2.2, 992, .inl fT))] sz) := by
  refine Met.ofW (cc := prog_1_method_21_code) (maxL := 2) (ret := none) (by decide) rfl ?_
  intro p e s m args below meth c s₁ B hml hv
  obtain ⟨rfl, hsz, hP, hK, hD0, hE⟩ := hv
  have hx := B.exec
  have hb := B.bytes
  have hr := B.returns
  have hts := atoms_spec (ws := w_B_writePart) B.pre
  have hw : ∀ w ∈ cw, w.before _ s = true := fun w h => hts w (List.mem_cons_of_mem _ h)
  have hown : s.vm.findClass "BuildDrawer" = some m.cls := findClass_of_methodNamed B.named
  have hlocks := B.notSynchronized
  subst hsz
  have hD := hD0.self (sz := s.heap.size)
  generalize hAe : va_A [(h0, .inr (1, [.long seed, .ref hM, .ref hO, .int (nI cnt), .ref aS, .ref aA, .ref aB, .ref aN, .ref aM, .ref aL, .int vb, .int vs, .ref aT, .int (nI n)])), (aS, .inl (K.1, 62, .inl fS)), (aA, .inl (K.1, 62, .inl fA)), (aB, .inl (K.1, 62, .inl fB)), (aN, .inl (K.1, 62, .inl fN)), (aT, .inl (K.2.2, 992, .inl fT))] s.heap.size = A at hD hE ⊢
  have hA : ∀ q : Nat, s.heap.size ≤ q → A q := fun q h => by rw [← hAe]; exact Or.inr h
  have hS : va_S A s.heap s.heap [] := va_S.rf
  have hl := lv_entry ([.ref h0, .int (nI k)]) (n := 2) (Nat.le_of_ble_eq_true rfl)
  rw [lg_entry_eq]
  generalize (lg_sl ([.ref h0, .int (nI k)]) ++ List.replicate (2 - (lg_sl ([.ref h0, .int (nI k)])).length) Slot.unset).toArray = ls at hl ⊢
  have hl : lv_has ls 2 [(0, .ref h0), (1, .int (nI k))] := hl
  obtain ⟨⟨s9, hs9, hs⟩, ⟨a9, hla, ha9⟩, ⟨b9, hlb, hb9⟩, hn8⟩ := hok
  have hlt_s : s9 < 2 ^ 31 := by omega
  have hlt_a : a9 < 2 ^ 31 := by omega
  have hlt_b : b9 < 2 ^ 31 := by omega
  have hg1 := bd_dg2 (q := k) (by omega)
  have hg2 := bd_dg3 a9
  have hg3 := bd_dg3 b9
  refine lv_aload_n hx hb d_B_writePart_0 rfl (lv_at hl 0 rfl) ?_
  refine lv_iload_n hx hb d_B_writePart_1 rfl (lv_at hl 1 rfl) ?_
  refine cx_ci (wr := [(aS, .inl (K.1, 62, .inl fS)), (aA, .inl (K.1, 62, .inl fA)), (aB, .inl (K.1, 62, .inl fB)), (aN, .inl (K.1, 62, .inl fN)), (aT, .inl (K.2.2, 992, .inl fT))]) (wN := [(h0, .inr (1, [.long seed, .ref hM, .ref hO, .int (nI cnt), .ref aS, .ref aA, .ref aB, .ref aN, .ref aM, .ref aL, .int vb, .int vs, .ref aT, .int (nI n)])), (aS, .inl (K.1, 62, .inl fS)), (aA, .inl (K.1, 62, .inl fA)), (aB, .inl (K.1, 62, .inl fB)), (aN, .inl (K.1, 62, .inl fN)), (aT, .inl (K.2.2, 992, .inl fT))]) (va_runV (As := [.int (nI k)]) (rest := []) ⟨hx, hb, hml, hown, hw⟩ (c_B_isPart l G D K s.heap.size h0 seed hM hO cnt aS aA aB aN aM aL vb vs aT (nI n) (nI k)) (cwV 1 hw (cx_gV k_153 k_155 ks_B_isPart k_1 k_156) rfl rfl rfl (by decide +kernel) ⟨Nat.le_of_ble_eq_true rfl, Nat.le_of_ble_eq_true rfl⟩) (cx_preV (q0 := 0) (ci := 1) hK hP hD hS hA hE rfl rfl [0] rfl rfl (by decide)) rfl rfl hl.1 rfl (lv_room (Nat.le_of_ble_eq_true rfl)) d_B_writePart_2 ⟨Nat.le_of_ble_eq_true rfl, Nat.le_of_ble_eq_true rfl⟩) hP hD hS hA [0] [1, 2, 3, 4, 5] rfl rfl (by decide) (by decide) [5, 0, 1, 2, 3, 4] rfl rfl (by decide) (fun H locs hP hD hS => ?_)
  refine cx_ti (y := 1) (bd_ip_in hcnt hk) ?_
  refine lv_if_ne (tgt := 9) hx hb d_B_writePart_5 (by decide) (fun r_5 => ?_) (fun r_5 => ?_)
  · have c_5 := r_5
    refine lv_aload_n hx hb d_B_writePart_9 rfl (lv_at hl 0 rfl) ?_
    refine lv_aload_n hx hb d_B_writePart_10 rfl (lv_at hl 0 rfl) ?_
    refine va_get (D := D) (ci := 1) (v := .ref aS) (C := "BuildDrawer") (T := TB) (N := 14) hx hb hw inB hown hK hP 0 rfl rfl 4 (by decide) (hw _ k_60) (fun _ h9 => h9) rfl d_B_writePart_11 ?_
    refine lv_iload_n hx hb d_B_writePart_14 rfl (lv_at hl 1 rfl) ?_
    refine va_iald hx hb hK hP 1 0 rfl rfl (vp_in_nI (n := k) (by omega) (by omega)) d_B_writePart_15 ?_
    refine cx_ti (y := nI s9) (by rw [nI_clamp (by omega)]; exact hs) ?_
    refine cx_ci (wr := [(h0, .inr (1, [.long seed, .ref hM, .ref hO, .int (nI cnt), .ref aS, .ref aA, .ref aB, .ref aN, .ref aM, .ref aL, .int vb, .int vs, .ref aT, .int (nI n)])), (aS, .inl (K.1, 62, .inl fS)), (aA, .inl (K.1, 62, .inl fA)), (aB, .inl (K.1, 62, .inl fB)), (aN, .inl (K.1, 62, .inl fN)), (aT, .inl (K.2.2, 992, .inl fT))]) (wN := [(h0, .inr (1, [.long seed, .ref hM, .ref hO, .int (nI cnt), .ref aS, .ref aA, .ref aB, .ref aN, .ref aM, .ref aL, .int vb, .int vs, .ref aT, .int (nI n)])), (aS, .inl (K.1, 62, .inl fS)), (aA, .inl (K.1, 62, .inl fA)), (aB, .inl (K.1, 62, .inl fB)), (aN, .inl (K.1, 62, .inl fN)), (aT, .inl (K.2.2, 992, .inl fT))]) (va_runS (As := [.int (nI s9)]) (rest := [.ref h0]) ⟨hx, hb, hml, hown, hw⟩ (c_B_letterOf l G D K H.size s9 (by omega)) (va_cwS 1 hw (cx_gS k_181 k_182 k_1 k_183) rfl rfl rfl (by decide +kernel) ⟨Nat.le_of_ble_eq_true rfl, Nat.le_of_ble_eq_true rfl⟩) (cx_pre hK hP hD hS hA hE [] rfl rfl (by decide)) rfl rfl hl.1 rfl (lv_room (Nat.le_of_ble_eq_true rfl)) d_B_writePart_16 ⟨Nat.le_of_ble_eq_true rfl, Nat.le_of_ble_eq_true rfl⟩) hP hD hS hA [] [0, 1, 2, 3, 4, 5] rfl rfl (by decide) (by decide) [0, 1, 2, 3, 4, 5] rfl rfl (by decide) (fun H locs hP hD hS => ?_)
    refine cx_cv (wr := [(aS, .inl (K.1, 62, .inl fS)), (aA, .inl (K.1, 62, .inl fA)), (aB, .inl (K.1, 62, .inl fB)), (aN, .inl (K.1, 62, .inl fN))]) (wN := [(h0, .inr (1, [.long seed, .ref hM, .ref hO, .int (nI cnt), .ref aS, .ref aA, .ref aB, .ref aN, .ref aM, .ref aL, .int vb, .int vs, .ref aT, .int (nI (n + ([bd_ltN s9]).length))])), (aS, .inl (K.1, 62, .inl fS)), (aA, .inl (K.1, 62, .inl fA)), (aB, .inl (K.1, 62, .inl fB)), (aN, .inl (K.1, 62, .inl fN)), (aT, .inl (K.2.2, 992, .inl (bd_app fT n ([bd_ltN s9]))))]) (va_runV (As := [.int (nI (bd_ltN s9))]) (rest := []) ⟨hx, hb, hml, hown, hw⟩ (c_B_writeSign l G D K H.size h0 seed hM hO cnt aS aA aB aN aM aL vb vs aT n fT (bd_ltN s9) (by omega) (by first | omega | (have := bd_ltL s9 hs9; omega))) (cwV 1 hw (cx_gV k_233 k_235 ks_B_writeSign k_1 k_236) rfl rfl rfl (by decide +kernel) ⟨Nat.le_of_ble_eq_true rfl, Nat.le_of_ble_eq_true rfl⟩) (cx_preV (q0 := 0) (ci := 1) hK hP hD hS hA hE rfl rfl [0, 5] rfl rfl (by decide)) rfl rfl hl.1 rfl (lv_room (Nat.le_of_ble_eq_true rfl)) d_B_writePart_19 ⟨Nat.le_of_ble_eq_true rfl, Nat.le_of_ble_eq_true rfl⟩) hP hD hS hA [0, 5] [1, 2, 3, 4] rfl rfl (by decide) (by decide) [4, 0, 1, 2, 3, 5] rfl rfl (by decide) (fun H locs hP hD hS => ?_)
    have hP : va_P D vwCl [(h0, .inr (1, [.long seed, .ref hM, .ref hO, .int (nI cnt), .ref aS, .ref aA, .ref aB, .ref aN, .ref aM, .ref aL, .int vb, .int vs, .ref aT, .int (nI (n + ([bd_ltN s9]).length))])), (aS, .inl (K.1, 62, .inl fS)), (aA, .inl (K.1, 62, .inl fA)), (aB, .inl (K.1, 62, .inl fB)), (aN, .inl (K.1, 62, .inl fN)), (aT, .inl (K.2.2, 992, .inl (bd_app fT n ([bd_ltN s9]))))] H := hP
    have hD : va_D A [(h0, .inr (1, [.long seed, .ref hM, .ref hO, .int (nI cnt), .ref aS, .ref aA, .ref aB, .ref aN, .ref aM, .ref aL, .int vb, .int vs, .ref aT, .int (nI (n + ([bd_ltN s9]).length))])), (aS, .inl (K.1, 62, .inl fS)), (aA, .inl (K.1, 62, .inl fA)), (aB, .inl (K.1, 62, .inl fB)), (aN, .inl (K.1, 62, .inl fN)), (aT, .inl (K.2.2, 992, .inl (bd_app fT n ([bd_ltN s9]))))] := hD
    refine lv_aload_n hx hb d_B_writePart_22 rfl (lv_at hl 0 rfl) ?_
    refine lv_iload_n hx hb d_B_writePart_23 rfl (lv_at hl 1 rfl) ?_
    refine cx_cv (wr := [(aS, .inl (K.1, 62, .inl fS)), (aA, .inl (K.1, 62, .inl fA)), (aB, .inl (K.1, 62, .inl fB)), (aN, .inl (K.1, 62, .inl fN))]) (wN := [(h0, .inr (1, [.long seed, .ref hM, .ref hO, .int (nI cnt), .ref aS, .ref aA, .ref aB, .ref aN, .ref aM, .ref aL, .int vb, .int vs, .ref aT, .int (nI (n + ([bd_ltN s9]).length + (bd_dg k).length))])), (aS, .inl (K.1, 62, .inl fS)), (aA, .inl (K.1, 62, .inl fA)), (aB, .inl (K.1, 62, .inl fB)), (aN, .inl (K.1, 62, .inl fN)), (aT, .inl (K.2.2, 992, .inl (bd_app (bd_app fT n ([bd_ltN s9])) (n + ([bd_ltN s9]).length) (bd_dg k))))]) (va_runV (As := [.int (nI k)]) (rest := []) ⟨hx, hb, hml, hown, hw⟩ (c_B_writeNumber l G D K H.size h0 seed hM hO cnt aS aA aB aN aM aL vb vs aT (n + ([bd_ltN s9]).length) (bd_app fT n ([bd_ltN s9])) k (by simp only [List.length_append, List.length_cons, List.length_nil]; omega) (by first | omega | (have := bd_ltL s9 hs9; omega))) (cwV 1 hw (cx_gV k_237 k_239 ks_B_writeNumber k_1 k_240) rfl rfl rfl (by decide +kernel) ⟨Nat.le_of_ble_eq_true rfl, Nat.le_of_ble_eq_true rfl⟩) (cx_preV (q0 := 0) (ci := 1) hK hP hD hS hA hE rfl rfl [0, 5] rfl rfl (by decide)) rfl rfl hl.1 rfl (lv_room (Nat.le_of_ble_eq_true rfl)) d_B_writePart_24 ⟨Nat.le_of_ble_eq_true rfl, Nat.le_of_ble_eq_true rfl⟩) hP hD hS hA [0, 5] [1, 2, 3, 4] rfl rfl (by decide) (by decide) [4, 0, 1, 2, 3, 5] rfl rfl (by decide) (fun H locs hP hD hS => ?_)
    rw [bd_app_app, bd_tl] at hP hD
    have hP : va_P D vwCl [(h0, .inr (1, [.long seed, .ref hM, .ref hO, .int (nI cnt), .ref aS, .ref aA, .ref aB, .ref aN, .ref aM, .ref aL, .int vb, .int vs, .ref aT, .int (nI (n + ([bd_ltN s9] ++ (bd_dg k)).length))])), (aS, .inl (K.1, 62, .inl fS)), (aA, .inl (K.1, 62, .inl fA)), (aB, .inl (K.1, 62, .inl fB)), (aN, .inl (K.1, 62, .inl fN)), (aT, .inl (K.2.2, 992, .inl (bd_app fT n ([bd_ltN s9] ++ (bd_dg k)))))] H := hP
    have hD : va_D A [(h0, .inr (1, [.long seed, .ref hM, .ref hO, .int (nI cnt), .ref aS, .ref aA, .ref aB, .ref aN, .ref aM, .ref aL, .int vb, .int vs, .ref aT, .int (nI (n + ([bd_ltN s9] ++ (bd_dg k)).length))])), (aS, .inl (K.1, 62, .inl fS)), (aA, .inl (K.1, 62, .inl fA)), (aB, .inl (K.1, 62, .inl fB)), (aN, .inl (K.1, 62, .inl fN)), (aT, .inl (K.2.2, 992, .inl (bd_app fT n ([bd_ltN s9] ++ (bd_dg k)))))] := hD
    refine lv_aload_n hx hb d_B_writePart_27 rfl (lv_at hl 0 rfl) ?_
    refine lv_bipush (v := 40) hx hb d_B_writePart_28 (by decide) ?_
    refine cx_cv (wr := [(aS, .inl (K.1, 62, .inl fS)), (aA, .inl (K.1, 62, .inl fA)), (aB, .inl (K.1, 62, .inl fB)), (aN, .inl (K.1, 62, .inl fN))]) (wN := [(h0, .inr (1, [.long seed, .ref hM, .ref hO, .int (nI cnt), .ref aS, .ref aA, .ref aB, .ref aN, .ref aM, .ref aL, .int vb, .int vs, .ref aT, .int (nI (n + ([bd_ltN s9] ++ (bd_dg k)).length + ([40]).length))])), (aS, .inl (K.1, 62, .inl fS)), (aA, .inl (K.1, 62, .inl fA)), (aB, .inl (K.1, 62, .inl fB)), (aN, .inl (K.1, 62, .inl fN)), (aT, .inl (K.2.2, 992, .inl (bd_app (bd_app fT n ([bd_ltN s9] ++ (bd_dg k))) (n + ([bd_ltN s9] ++ (bd_dg k)).length) ([40]))))]) (va_runV (As := [.int 40]) (rest := []) ⟨hx, hb, hml, hown, hw⟩ (c_B_writeSign l G D K H.size h0 seed hM hO cnt aS aA aB aN aM aL vb vs aT (n + ([bd_ltN s9] ++ (bd_dg k)).length) (bd_app fT n ([bd_ltN s9] ++ (bd_dg k))) 40 (by simp only [List.length_append, List.length_cons, List.length_nil]; omega) (by first | omega | (have := bd_ltL s9 hs9; omega))) (cwV 1 hw (cx_gV k_233 k_235 ks_B_writeSign k_1 k_236) rfl rfl rfl (by decide +kernel) ⟨Nat.le_of_ble_eq_true rfl, Nat.le_of_ble_eq_true rfl⟩) (cx_preV (q0 := 0) (ci := 1) hK hP hD hS hA hE rfl rfl [0, 5] rfl rfl (by decide)) rfl rfl hl.1 rfl (lv_room (Nat.le_of_ble_eq_true rfl)) d_B_writePart_30 ⟨Nat.le_of_ble_eq_true rfl, Nat.le_of_ble_eq_true rfl⟩) hP hD hS hA [0, 5] [1, 2, 3, 4] rfl rfl (by decide) (by decide) [4, 0, 1, 2, 3, 5] rfl rfl (by decide) (fun H locs hP hD hS => ?_)
    rw [bd_app_app, bd_tl] at hP hD
    have hP : va_P D vwCl [(h0, .inr (1, [.long seed, .ref hM, .ref hO, .int (nI cnt), .ref aS, .ref aA, .ref aB, .ref aN, .ref aM, .ref aL, .int vb, .int vs, .ref aT, .int (nI (n + ([bd_ltN s9] ++ (bd_dg k) ++ [40]).length))])), (aS, .inl (K.1, 62, .inl fS)), (aA, .inl (K.1, 62, .inl fA)), (aB, .inl (K.1, 62, .inl fB)), (aN, .inl (K.1, 62, .inl fN)), (aT, .inl (K.2.2, 992, .inl (bd_app fT n ([bd_ltN s9] ++ (bd_dg k) ++ [40]))))] H := hP
    have hD : va_D A [(h0, .inr (1, [.long seed, .ref hM, .ref hO, .int (nI cnt), .ref aS, .ref aA, .ref aB, .ref aN, .ref aM, .ref aL, .int vb, .int vs, .ref aT, .int (nI (n + ([bd_ltN s9] ++ (bd_dg k) ++ [40]).length))])), (aS, .inl (K.1, 62, .inl fS)), (aA, .inl (K.1, 62, .inl fA)), (aB, .inl (K.1, 62, .inl fB)), (aN, .inl (K.1, 62, .inl fN)), (aT, .inl (K.2.2, 992, .inl (bd_app fT n ([bd_ltN s9] ++ (bd_dg k) ++ [40]))))] := hD
    refine lv_aload_n hx hb d_B_writePart_33 rfl (lv_at hl 0 rfl) ?_
    refine lv_aload_n hx hb d_B_writePart_34 rfl (lv_at hl 0 rfl) ?_
    refine va_get (D := D) (ci := 1) (v := .ref aA) (C := "BuildDrawer") (T := TB) (N := 14) hx hb hw inB hown hK hP 0 rfl rfl 5 (by decide) (hw _ k_61) (fun _ h9 => h9) rfl d_B_writePart_35 ?_
    refine lv_iload_n hx hb d_B_writePart_38 rfl (lv_at hl 1 rfl) ?_
    refine va_iald hx hb hK hP 2 0 rfl rfl (vp_in_nI (n := k) (by omega) (by omega)) d_B_writePart_39 ?_
    refine cx_ti (y := nI a9) (by rw [nI_clamp (by omega)]; exact ha9) ?_
    refine cx_cv (wr := [(aS, .inl (K.1, 62, .inl fS)), (aA, .inl (K.1, 62, .inl fA)), (aB, .inl (K.1, 62, .inl fB)), (aN, .inl (K.1, 62, .inl fN))]) (wN := [(h0, .inr (1, [.long seed, .ref hM, .ref hO, .int (nI cnt), .ref aS, .ref aA, .ref aB, .ref aN, .ref aM, .ref aL, .int vb, .int vs, .ref aT, .int (nI (n + ([bd_ltN s9] ++ (bd_dg k) ++ [40]).length + (bd_dg a9).length))])), (aS, .inl (K.1, 62, .inl fS)), (aA, .inl (K.1, 62, .inl fA)), (aB, .inl (K.1, 62, .inl fB)), (aN, .inl (K.1, 62, .inl fN)), (aT, .inl (K.2.2, 992, .inl (bd_app (bd_app fT n ([bd_ltN s9] ++ (bd_dg k) ++ [40])) (n + ([bd_ltN s9] ++ (bd_dg k) ++ [40]).length) (bd_dg a9))))]) (va_runV (As := [.int (nI a9)]) (rest := []) ⟨hx, hb, hml, hown, hw⟩ (c_B_writeNumber l G D K H.size h0 seed hM hO cnt aS aA aB aN aM aL vb vs aT (n + ([bd_ltN s9] ++ (bd_dg k) ++ [40]).length) (bd_app fT n ([bd_ltN s9] ++ (bd_dg k) ++ [40])) a9 (by simp only [List.length_append, List.length_cons, List.length_nil]; omega) (by first | omega | (have := bd_ltL s9 hs9; omega))) (cwV 1 hw (cx_gV k_237 k_239 ks_B_writeNumber k_1 k_240) rfl rfl rfl (by decide +kernel) ⟨Nat.le_of_ble_eq_true rfl, Nat.le_of_ble_eq_true rfl⟩) (cx_preV (q0 := 0) (ci := 1) hK hP hD hS hA hE rfl rfl [0, 5] rfl rfl (by decide)) rfl rfl hl.1 rfl (lv_room (Nat.le_of_ble_eq_true rfl)) d_B_writePart_40 ⟨Nat.le_of_ble_eq_true rfl, Nat.le_of_ble_eq_true rfl⟩) hP hD hS hA [0, 5] [1, 2, 3, 4] rfl rfl (by decide) (by decide) [4, 0, 1, 2, 3, 5] rfl rfl (by decide) (fun H locs hP hD hS => ?_)
    rw [bd_app_app, bd_tl] at hP hD
    have hP : va_P D vwCl [(h0, .inr (1, [.long seed, .ref hM, .ref hO, .int (nI cnt), .ref aS, .ref aA, .ref aB, .ref aN, .ref aM, .ref aL, .int vb, .int vs, .ref aT, .int (nI (n + ([bd_ltN s9] ++ (bd_dg k) ++ [40] ++ (bd_dg a9)).length))])), (aS, .inl (K.1, 62, .inl fS)), (aA, .inl (K.1, 62, .inl fA)), (aB, .inl (K.1, 62, .inl fB)), (aN, .inl (K.1, 62, .inl fN)), (aT, .inl (K.2.2, 992, .inl (bd_app fT n ([bd_ltN s9] ++ (bd_dg k) ++ [40] ++ (bd_dg a9)))))] H := hP
    have hD : va_D A [(h0, .inr (1, [.long seed, .ref hM, .ref hO, .int (nI cnt), .ref aS, .ref aA, .ref aB, .ref aN, .ref aM, .ref aL, .int vb, .int vs, .ref aT, .int (nI (n + ([bd_ltN s9] ++ (bd_dg k) ++ [40] ++ (bd_dg a9)).length))])), (aS, .inl (K.1, 62, .inl fS)), (aA, .inl (K.1, 62, .inl fA)), (aB, .inl (K.1, 62, .inl fB)), (aN, .inl (K.1, 62, .inl fN)), (aT, .inl (K.2.2, 992, .inl (bd_app fT n ([bd_ltN s9] ++ (bd_dg k) ++ [40] ++ (bd_dg a9)))))] := hD
    refine lv_aload_n hx hb d_B_writePart_43 rfl (lv_at hl 0 rfl) ?_
    refine lv_bipush (v := 44) hx hb d_B_writePart_44 (by decide) ?_
    refine cx_cv (wr := [(aS, .inl (K.1, 62, .inl fS)), (aA, .inl (K.1, 62, .inl fA)), (aB, .inl (K.1, 62, .inl fB)), (aN, .inl (K.1, 62, .inl fN))]) (wN := [(h0, .inr (1, [.long seed, .ref hM, .ref hO, .int (nI cnt), .ref aS, .ref aA, .ref aB, .ref aN, .ref aM, .ref aL, .int vb, .int vs, .ref aT, .int (nI (n + ([bd_ltN s9] ++ (bd_dg k) ++ [40] ++ (bd_dg a9)).length + ([44]).length))])), (aS, .inl (K.1, 62, .inl fS)), (aA, .inl (K.1, 62, .inl fA)), (aB, .inl (K.1, 62, .inl fB)), (aN, .inl (K.1, 62, .inl fN)), (aT, .inl (K.2.2, 992, .inl (bd_app (bd_app fT n ([bd_ltN s9] ++ (bd_dg k) ++ [40] ++ (bd_dg a9))) (n + ([bd_ltN s9] ++ (bd_dg k) ++ [40] ++ (bd_dg a9)).length) ([44]))))]) (va_runV (As := [.int 44]) (rest := []) ⟨hx, hb, hml, hown, hw⟩ (c_B_writeSign l G D K H.size h0 seed hM hO cnt aS aA aB aN aM aL vb vs aT (n + ([bd_ltN s9] ++ (bd_dg k) ++ [40] ++ (bd_dg a9)).length) (bd_app fT n ([bd_ltN s9] ++ (bd_dg k) ++ [40] ++ (bd_dg a9))) 44 (by simp only [List.length_append, List.length_cons, List.length_nil]; omega) (by first | omega | (have := bd_ltL s9 hs9; omega))) (cwV 1 hw (cx_gV k_233 k_235 ks_B_writeSign k_1 k_236) rfl rfl rfl (by decide +kernel) ⟨Nat.le_of_ble_eq_true rfl, Nat.le_of_ble_eq_true rfl⟩) (cx_preV (q0 := 0) (ci := 1) hK hP hD hS hA hE rfl rfl [0, 5] rfl rfl (by decide)) rfl rfl hl.1 rfl (lv_room (Nat.le_of_ble_eq_true rfl)) d_B_writePart_46 ⟨Nat.le_of_ble_eq_true rfl, Nat.le_of_ble_eq_true rfl⟩) hP hD hS hA [0, 5] [1, 2, 3, 4] rfl rfl (by decide) (by decide) [4, 0, 1, 2, 3, 5] rfl rfl (by decide) (fun H locs hP hD hS => ?_)
    rw [bd_app_app, bd_tl] at hP hD
    have hP : va_P D vwCl [(h0, .inr (1, [.long seed, .ref hM, .ref hO, .int (nI cnt), .ref aS, .ref aA, .ref aB, .ref aN, .ref aM, .ref aL, .int vb, .int vs, .ref aT, .int (nI (n + ([bd_ltN s9] ++ (bd_dg k) ++ [40] ++ (bd_dg a9) ++ [44]).length))])), (aS, .inl (K.1, 62, .inl fS)), (aA, .inl (K.1, 62, .inl fA)), (aB, .inl (K.1, 62, .inl fB)), (aN, .inl (K.1, 62, .inl fN)), (aT, .inl (K.2.2, 992, .inl (bd_app fT n ([bd_ltN s9] ++ (bd_dg k) ++ [40] ++ (bd_dg a9) ++ [44]))))] H := hP
    have hD : va_D A [(h0, .inr (1, [.long seed, .ref hM, .ref hO, .int (nI cnt), .ref aS, .ref aA, .ref aB, .ref aN, .ref aM, .ref aL, .int vb, .int vs, .ref aT, .int (nI (n + ([bd_ltN s9] ++ (bd_dg k) ++ [40] ++ (bd_dg a9) ++ [44]).length))])), (aS, .inl (K.1, 62, .inl fS)), (aA, .inl (K.1, 62, .inl fA)), (aB, .inl (K.1, 62, .inl fB)), (aN, .inl (K.1, 62, .inl fN)), (aT, .inl (K.2.2, 992, .inl (bd_app fT n ([bd_ltN s9] ++ (bd_dg k) ++ [40] ++ (bd_dg a9) ++ [44]))))] := hD
    refine lv_aload_n hx hb d_B_writePart_49 rfl (lv_at hl 0 rfl) ?_
    refine lv_aload_n hx hb d_B_writePart_50 rfl (lv_at hl 0 rfl) ?_
    refine va_get (D := D) (ci := 1) (v := .ref aB) (C := "BuildDrawer") (T := TB) (N := 14) hx hb hw inB hown hK hP 0 rfl rfl 6 (by decide) (hw _ k_62) (fun _ h9 => h9) rfl d_B_writePart_51 ?_
    refine lv_iload_n hx hb d_B_writePart_54 rfl (lv_at hl 1 rfl) ?_
    refine va_iald hx hb hK hP 3 0 rfl rfl (vp_in_nI (n := k) (by omega) (by omega)) d_B_writePart_55 ?_
    refine cx_ti (y := nI b9) (by rw [nI_clamp (by omega)]; exact hb9) ?_
    refine cx_cv (wr := [(aS, .inl (K.1, 62, .inl fS)), (aA, .inl (K.1, 62, .inl fA)), (aB, .inl (K.1, 62, .inl fB)), (aN, .inl (K.1, 62, .inl fN))]) (wN := [(h0, .inr (1, [.long seed, .ref hM, .ref hO, .int (nI cnt), .ref aS, .ref aA, .ref aB, .ref aN, .ref aM, .ref aL, .int vb, .int vs, .ref aT, .int (nI (n + ([bd_ltN s9] ++ (bd_dg k) ++ [40] ++ (bd_dg a9) ++ [44]).length + (bd_dg b9).length))])), (aS, .inl (K.1, 62, .inl fS)), (aA, .inl (K.1, 62, .inl fA)), (aB, .inl (K.1, 62, .inl fB)), (aN, .inl (K.1, 62, .inl fN)), (aT, .inl (K.2.2, 992, .inl (bd_app (bd_app fT n ([bd_ltN s9] ++ (bd_dg k) ++ [40] ++ (bd_dg a9) ++ [44])) (n + ([bd_ltN s9] ++ (bd_dg k) ++ [40] ++ (bd_dg a9) ++ [44]).length) (bd_dg b9))))]) (va_runV (As := [.int (nI b9)]) (rest := []) ⟨hx, hb, hml, hown, hw⟩ (c_B_writeNumber l G D K H.size h0 seed hM hO cnt aS aA aB aN aM aL vb vs aT (n + ([bd_ltN s9] ++ (bd_dg k) ++ [40] ++ (bd_dg a9) ++ [44]).length) (bd_app fT n ([bd_ltN s9] ++ (bd_dg k) ++ [40] ++ (bd_dg a9) ++ [44])) b9 (by simp only [List.length_append, List.length_cons, List.length_nil]; omega) (by first | omega | (have := bd_ltL s9 hs9; omega))) (cwV 1 hw (cx_gV k_237 k_239 ks_B_writeNumber k_1 k_240) rfl rfl rfl (by decide +kernel) ⟨Nat.le_of_ble_eq_true rfl, Nat.le_of_ble_eq_true rfl⟩) (cx_preV (q0 := 0) (ci := 1) hK hP hD hS hA hE rfl rfl [0, 5] rfl rfl (by decide)) rfl rfl hl.1 rfl (lv_room (Nat.le_of_ble_eq_true rfl)) d_B_writePart_56 ⟨Nat.le_of_ble_eq_true rfl, Nat.le_of_ble_eq_true rfl⟩) hP hD hS hA [0, 5] [1, 2, 3, 4] rfl rfl (by decide) (by decide) [4, 0, 1, 2, 3, 5] rfl rfl (by decide) (fun H locs hP hD hS => ?_)
    rw [bd_app_app, bd_tl] at hP hD
    have hP : va_P D vwCl [(h0, .inr (1, [.long seed, .ref hM, .ref hO, .int (nI cnt), .ref aS, .ref aA, .ref aB, .ref aN, .ref aM, .ref aL, .int vb, .int vs, .ref aT, .int (nI (n + ([bd_ltN s9] ++ (bd_dg k) ++ [40] ++ (bd_dg a9) ++ [44] ++ (bd_dg b9)).length))])), (aS, .inl (K.1, 62, .inl fS)), (aA, .inl (K.1, 62, .inl fA)), (aB, .inl (K.1, 62, .inl fB)), (aN, .inl (K.1, 62, .inl fN)), (aT, .inl (K.2.2, 992, .inl (bd_app fT n ([bd_ltN s9] ++ (bd_dg k) ++ [40] ++ (bd_dg a9) ++ [44] ++ (bd_dg b9)))))] H := hP
    have hD : va_D A [(h0, .inr (1, [.long seed, .ref hM, .ref hO, .int (nI cnt), .ref aS, .ref aA, .ref aB, .ref aN, .ref aM, .ref aL, .int vb, .int vs, .ref aT, .int (nI (n + ([bd_ltN s9] ++ (bd_dg k) ++ [40] ++ (bd_dg a9) ++ [44] ++ (bd_dg b9)).length))])), (aS, .inl (K.1, 62, .inl fS)), (aA, .inl (K.1, 62, .inl fA)), (aB, .inl (K.1, 62, .inl fB)), (aN, .inl (K.1, 62, .inl fN)), (aT, .inl (K.2.2, 992, .inl (bd_app fT n ([bd_ltN s9] ++ (bd_dg k) ++ [40] ++ (bd_dg a9) ++ [44] ++ (bd_dg b9)))))] := hD
    refine lv_aload_n hx hb d_B_writePart_59 rfl (lv_at hl 0 rfl) ?_
    refine lv_bipush (v := 41) hx hb d_B_writePart_60 (by decide) ?_
    refine cx_cv (wr := [(aS, .inl (K.1, 62, .inl fS)), (aA, .inl (K.1, 62, .inl fA)), (aB, .inl (K.1, 62, .inl fB)), (aN, .inl (K.1, 62, .inl fN))]) (wN := [(h0, .inr (1, [.long seed, .ref hM, .ref hO, .int (nI cnt), .ref aS, .ref aA, .ref aB, .ref aN, .ref aM, .ref aL, .int vb, .int vs, .ref aT, .int (nI (n + ([bd_ltN s9] ++ (bd_dg k) ++ [40] ++ (bd_dg a9) ++ [44] ++ (bd_dg b9)).length + ([41]).length))])), (aS, .inl (K.1, 62, .inl fS)), (aA, .inl (K.1, 62, .inl fA)), (aB, .inl (K.1, 62, .inl fB)), (aN, .inl (K.1, 62, .inl fN)), (aT, .inl (K.2.2, 992, .inl (bd_app (bd_app fT n ([bd_ltN s9] ++ (bd_dg k) ++ [40] ++ (bd_dg a9) ++ [44] ++ (bd_dg b9))) (n + ([bd_ltN s9] ++ (bd_dg k) ++ [40] ++ (bd_dg a9) ++ [44] ++ (bd_dg b9)).length) ([41]))))]) (va_runV (As := [.int 41]) (rest := []) ⟨hx, hb, hml, hown, hw⟩ (c_B_writeSign l G D K H.size h0 seed hM hO cnt aS aA aB aN aM aL vb vs aT (n + ([bd_ltN s9] ++ (bd_dg k) ++ [40] ++ (bd_dg a9) ++ [44] ++ (bd_dg b9)).length) (bd_app fT n ([bd_ltN s9] ++ (bd_dg k) ++ [40] ++ (bd_dg a9) ++ [44] ++ (bd_dg b9))) 41 (by simp only [List.length_append, List.length_cons, List.length_nil]; omega) (by first | omega | (have := bd_ltL s9 hs9; omega))) (cwV 1 hw (cx_gV k_233 k_235 ks_B_writeSign k_1 k_236) rfl rfl rfl (by decide +kernel) ⟨Nat.le_of_ble_eq_true rfl, Nat.le_of_ble_eq_true rfl⟩) (cx_preV (q0 := 0) (ci := 1) hK hP hD hS hA hE rfl rfl [0, 5] rfl rfl (by decide)) rfl rfl hl.1 rfl (lv_room (Nat.le_of_ble_eq_true rfl)) d_B_writePart_62 ⟨Nat.le_of_ble_eq_true rfl, Nat.le_of_ble_eq_true rfl⟩) hP hD hS hA [0, 5] [1, 2, 3, 4] rfl rfl (by decide) (by decide) [4, 0, 1, 2, 3, 5] rfl rfl (by decide) (fun H locs hP hD hS => ?_)
    rw [bd_app_app, bd_tl] at hP hD
    have hP : va_P D vwCl [(h0, .inr (1, [.long seed, .ref hM, .ref hO, .int (nI cnt), .ref aS, .ref aA, .ref aB, .ref aN, .ref aM, .ref aL, .int vb, .int vs, .ref aT, .int (nI (n + ([bd_ltN s9] ++ (bd_dg k) ++ [40] ++ (bd_dg a9) ++ [44] ++ (bd_dg b9) ++ [41]).length))])), (aS, .inl (K.1, 62, .inl fS)), (aA, .inl (K.1, 62, .inl fA)), (aB, .inl (K.1, 62, .inl fB)), (aN, .inl (K.1, 62, .inl fN)), (aT, .inl (K.2.2, 992, .inl (bd_app fT n ([bd_ltN s9] ++ (bd_dg k) ++ [40] ++ (bd_dg a9) ++ [44] ++ (bd_dg b9) ++ [41]))))] H := hP
    have hD : va_D A [(h0, .inr (1, [.long seed, .ref hM, .ref hO, .int (nI cnt), .ref aS, .ref aA, .ref aB, .ref aN, .ref aM, .ref aL, .int vb, .int vs, .ref aT, .int (nI (n + ([bd_ltN s9] ++ (bd_dg k) ++ [40] ++ (bd_dg a9) ++ [44] ++ (bd_dg b9) ++ [41]).length))])), (aS, .inl (K.1, 62, .inl fS)), (aA, .inl (K.1, 62, .inl fA)), (aB, .inl (K.1, 62, .inl fB)), (aN, .inl (K.1, 62, .inl fN)), (aT, .inl (K.2.2, 992, .inl (bd_app fT n ([bd_ltN s9] ++ (bd_dg k) ++ [40] ++ (bd_dg a9) ++ [44] ++ (bd_dg b9) ++ [41]))))] := hD
    refine lv_aload_n hx hb d_B_writePart_65 rfl (lv_at hl 0 rfl) ?_
    refine va_get (D := D) (ci := 1) (v := .ref aN) (C := "BuildDrawer") (T := TB) (N := 14) hx hb hw inB hown hK hP 0 rfl rfl 7 (by decide) (hw _ k_63) (fun _ h9 => h9) rfl d_B_writePart_66 ?_
    refine lv_iload_n hx hb d_B_writePart_69 rfl (lv_at hl 1 rfl) ?_
    refine va_iald hx hb hK hP 4 0 rfl rfl (vp_in_nI (n := k) (by omega) (by omega)) d_B_writePart_70 ?_
    refine cx_ti (y := fN k) (by rw [nI_clamp (by omega)]) ?_
    refine lv_iconst (v := (-1)) hx hb d_B_writePart_71 (by decide) ?_
    refine lv_icmp_eq (tgt := 91) hx hb d_B_writePart_72 (by decide) (fun r_72 => ?_) (fun r_72 => ?_)
    · have c_72 := r_72
      refine lv_aload_n hx hb d_B_writePart_91 rfl (lv_at hl 0 rfl) ?_
      refine lv_bipush (v := 59) hx hb d_B_writePart_92 (by decide) ?_
      refine cx_cv (wr := [(aS, .inl (K.1, 62, .inl fS)), (aA, .inl (K.1, 62, .inl fA)), (aB, .inl (K.1, 62, .inl fB)), (aN, .inl (K.1, 62, .inl fN))]) (wN := [(h0, .inr (1, [.long seed, .ref hM, .ref hO, .int (nI cnt), .ref aS, .ref aA, .ref aB, .ref aN, .ref aM, .ref aL, .int vb, .int vs, .ref aT, .int (nI (n + ([bd_ltN s9] ++ (bd_dg k) ++ [40] ++ (bd_dg a9) ++ [44] ++ (bd_dg b9) ++ [41]).length + ([59]).length))])), (aS, .inl (K.1, 62, .inl fS)), (aA, .inl (K.1, 62, .inl fA)), (aB, .inl (K.1, 62, .inl fB)), (aN, .inl (K.1, 62, .inl fN)), (aT, .inl (K.2.2, 992, .inl (bd_app (bd_app fT n ([bd_ltN s9] ++ (bd_dg k) ++ [40] ++ (bd_dg a9) ++ [44] ++ (bd_dg b9) ++ [41])) (n + ([bd_ltN s9] ++ (bd_dg k) ++ [40] ++ (bd_dg a9) ++ [44] ++ (bd_dg b9) ++ [41]).length) ([59]))))]) (va_runV (As := [.int 59]) (rest := []) ⟨hx, hb, hml, hown, hw⟩ (c_B_writeSign l G D K H.size h0 seed hM hO cnt aS aA aB aN aM aL vb vs aT (n + ([bd_ltN s9] ++ (bd_dg k) ++ [40] ++ (bd_dg a9) ++ [44] ++ (bd_dg b9) ++ [41]).length) (bd_app fT n ([bd_ltN s9] ++ (bd_dg k) ++ [40] ++ (bd_dg a9) ++ [44] ++ (bd_dg b9) ++ [41])) 59 (by simp only [List.length_append, List.length_cons, List.length_nil]; omega) (by first | omega | (have := bd_ltL s9 hs9; omega))) (cwV 1 hw (cx_gV k_233 k_235 ks_B_writeSign k_1 k_236) rfl rfl rfl (by decide +kernel) ⟨Nat.le_of_ble_eq_true rfl, Nat.le_of_ble_eq_true rfl⟩) (cx_preV (q0 := 0) (ci := 1) hK hP hD hS hA hE rfl rfl [0, 5] rfl rfl (by decide)) rfl rfl hl.1 rfl (lv_room (Nat.le_of_ble_eq_true rfl)) d_B_writePart_94 ⟨Nat.le_of_ble_eq_true rfl, Nat.le_of_ble_eq_true rfl⟩) hP hD hS hA [0, 5] [1, 2, 3, 4] rfl rfl (by decide) (by decide) [4, 0, 1, 2, 3, 5] rfl rfl (by decide) (fun H locs hP hD hS => ?_)
      rw [bd_app_app, bd_tl] at hP hD
      have hP : va_P D vwCl [(h0, .inr (1, [.long seed, .ref hM, .ref hO, .int (nI cnt), .ref aS, .ref aA, .ref aB, .ref aN, .ref aM, .ref aL, .int vb, .int vs, .ref aT, .int (nI (n + ([bd_ltN s9] ++ (bd_dg k) ++ [40] ++ (bd_dg a9) ++ [44] ++ (bd_dg b9) ++ [41] ++ [59]).length))])), (aS, .inl (K.1, 62, .inl fS)), (aA, .inl (K.1, 62, .inl fA)), (aB, .inl (K.1, 62, .inl fB)), (aN, .inl (K.1, 62, .inl fN)), (aT, .inl (K.2.2, 992, .inl (bd_app fT n ([bd_ltN s9] ++ (bd_dg k) ++ [40] ++ (bd_dg a9) ++ [44] ++ (bd_dg b9) ++ [41] ++ [59]))))] H := hP
      have hD : va_D A [(h0, .inr (1, [.long seed, .ref hM, .ref hO, .int (nI cnt), .ref aS, .ref aA, .ref aB, .ref aN, .ref aM, .ref aL, .int vb, .int vs, .ref aT, .int (nI (n + ([bd_ltN s9] ++ (bd_dg k) ++ [40] ++ (bd_dg a9) ++ [44] ++ (bd_dg b9) ++ [41] ++ [59]).length))])), (aS, .inl (K.1, 62, .inl fS)), (aA, .inl (K.1, 62, .inl fA)), (aB, .inl (K.1, 62, .inl fB)), (aN, .inl (K.1, 62, .inl fN)), (aT, .inl (K.2.2, 992, .inl (bd_app fT n ([bd_ltN s9] ++ (bd_dg k) ++ [40] ++ (bd_dg a9) ++ [44] ++ (bd_dg b9) ++ [41] ++ [59]))))] := hD
      exact cx_vret hx hb hr hlocks hK hP hD hS d_B_writePart_97 (by rw [show bd_pt k (fS k) (fA k) (fB k) (fN k) = [bd_ltN s9] ++ (bd_dg k) ++ [40] ++ (bd_dg a9) ++ [44] ++ (bd_dg b9) ++ [41] ++ [59] by rw [bd_pt, bd_ptN, if_pos r_72, hs, ha9, hb9, nI_clamp hlt_s, nI_clamp hlt_a, nI_clamp hlt_b]; simp only [List.append_assoc, List.append_nil, List.nil_append]])
    · have c_72 := r_72
      obtain ⟨n9, hln, hn9⟩ := hn8.resolve_left r_72
      have hlt_n : n9 < 2 ^ 31 := by omega
      have hg4 := bd_dg2 hln
      refine lv_aload_n hx hb d_B_writePart_75 rfl (lv_at hl 0 rfl) ?_
      refine lv_bipush (v := 60) hx hb d_B_writePart_76 (by decide) ?_
      refine cx_cv (wr := [(aS, .inl (K.1, 62, .inl fS)), (aA, .inl (K.1, 62, .inl fA)), (aB, .inl (K.1, 62, .inl fB)), (aN, .inl (K.1, 62, .inl fN))]) (wN := [(h0, .inr (1, [.long seed, .ref hM, .ref hO, .int (nI cnt), .ref aS, .ref aA, .ref aB, .ref aN, .ref aM, .ref aL, .int vb, .int vs, .ref aT, .int (nI (n + ([bd_ltN s9] ++ (bd_dg k) ++ [40] ++ (bd_dg a9) ++ [44] ++ (bd_dg b9) ++ [41]).length + ([60]).length))])), (aS, .inl (K.1, 62, .inl fS)), (aA, .inl (K.1, 62, .inl fA)), (aB, .inl (K.1, 62, .inl fB)), (aN, .inl (K.1, 62, .inl fN)), (aT, .inl (K.2.2, 992, .inl (bd_app (bd_app fT n ([bd_ltN s9] ++ (bd_dg k) ++ [40] ++ (bd_dg a9) ++ [44] ++ (bd_dg b9) ++ [41])) (n + ([bd_ltN s9] ++ (bd_dg k) ++ [40] ++ (bd_dg a9) ++ [44] ++ (bd_dg b9) ++ [41]).length) ([60]))))]) (va_runV (As := [.int 60]) (rest := []) ⟨hx, hb, hml, hown, hw⟩ (c_B_writeSign l G D K H.size h0 seed hM hO cnt aS aA aB aN aM aL vb vs aT (n + ([bd_ltN s9] ++ (bd_dg k) ++ [40] ++ (bd_dg a9) ++ [44] ++ (bd_dg b9) ++ [41]).length) (bd_app fT n ([bd_ltN s9] ++ (bd_dg k) ++ [40] ++ (bd_dg a9) ++ [44] ++ (bd_dg b9) ++ [41])) 60 (by simp only [List.length_append, List.length_cons, List.length_nil]; omega) (by first | omega | (have := bd_ltL s9 hs9; omega))) (cwV 1 hw (cx_gV k_233 k_235 ks_B_writeSign k_1 k_236) rfl rfl rfl (by decide +kernel) ⟨Nat.le_of_ble_eq_true rfl, Nat.le_of_ble_eq_true rfl⟩) (cx_preV (q0 := 0) (ci := 1) hK hP hD hS hA hE rfl rfl [0, 5] rfl rfl (by decide)) rfl rfl hl.1 rfl (lv_room (Nat.le_of_ble_eq_true rfl)) d_B_writePart_78 ⟨Nat.le_of_ble_eq_true rfl, Nat.le_of_ble_eq_true rfl⟩) hP hD hS hA [0, 5] [1, 2, 3, 4] rfl rfl (by decide) (by decide) [4, 0, 1, 2, 3, 5] rfl rfl (by decide) (fun H locs hP hD hS => ?_)
      rw [bd_app_app, bd_tl] at hP hD
      have hP : va_P D vwCl [(h0, .inr (1, [.long seed, .ref hM, .ref hO, .int (nI cnt), .ref aS, .ref aA, .ref aB, .ref aN, .ref aM, .ref aL, .int vb, .int vs, .ref aT, .int (nI (n + ([bd_ltN s9] ++ (bd_dg k) ++ [40] ++ (bd_dg a9) ++ [44] ++ (bd_dg b9) ++ [41] ++ [60]).length))])), (aS, .inl (K.1, 62, .inl fS)), (aA, .inl (K.1, 62, .inl fA)), (aB, .inl (K.1, 62, .inl fB)), (aN, .inl (K.1, 62, .inl fN)), (aT, .inl (K.2.2, 992, .inl (bd_app fT n ([bd_ltN s9] ++ (bd_dg k) ++ [40] ++ (bd_dg a9) ++ [44] ++ (bd_dg b9) ++ [41] ++ [60]))))] H := hP
      have hD : va_D A [(h0, .inr (1, [.long seed, .ref hM, .ref hO, .int (nI cnt), .ref aS, .ref aA, .ref aB, .ref aN, .ref aM, .ref aL, .int vb, .int vs, .ref aT, .int (nI (n + ([bd_ltN s9] ++ (bd_dg k) ++ [40] ++ (bd_dg a9) ++ [44] ++ (bd_dg b9) ++ [41] ++ [60]).length))])), (aS, .inl (K.1, 62, .inl fS)), (aA, .inl (K.1, 62, .inl fA)), (aB, .inl (K.1, 62, .inl fB)), (aN, .inl (K.1, 62, .inl fN)), (aT, .inl (K.2.2, 992, .inl (bd_app fT n ([bd_ltN s9] ++ (bd_dg k) ++ [40] ++ (bd_dg a9) ++ [44] ++ (bd_dg b9) ++ [41] ++ [60]))))] := hD
      refine lv_aload_n hx hb d_B_writePart_81 rfl (lv_at hl 0 rfl) ?_
      refine lv_aload_n hx hb d_B_writePart_82 rfl (lv_at hl 0 rfl) ?_
      refine va_get (D := D) (ci := 1) (v := .ref aN) (C := "BuildDrawer") (T := TB) (N := 14) hx hb hw inB hown hK hP 0 rfl rfl 7 (by decide) (hw _ k_63) (fun _ h9 => h9) rfl d_B_writePart_83 ?_
      refine lv_iload_n hx hb d_B_writePart_86 rfl (lv_at hl 1 rfl) ?_
      refine va_iald hx hb hK hP 4 0 rfl rfl (vp_in_nI (n := k) (by omega) (by omega)) d_B_writePart_87 ?_
      refine cx_ti (y := nI n9) (by rw [nI_clamp (by omega)]; exact hn9) ?_
      refine cx_cv (wr := [(aS, .inl (K.1, 62, .inl fS)), (aA, .inl (K.1, 62, .inl fA)), (aB, .inl (K.1, 62, .inl fB)), (aN, .inl (K.1, 62, .inl fN))]) (wN := [(h0, .inr (1, [.long seed, .ref hM, .ref hO, .int (nI cnt), .ref aS, .ref aA, .ref aB, .ref aN, .ref aM, .ref aL, .int vb, .int vs, .ref aT, .int (nI (n + ([bd_ltN s9] ++ (bd_dg k) ++ [40] ++ (bd_dg a9) ++ [44] ++ (bd_dg b9) ++ [41] ++ [60]).length + (bd_dg n9).length))])), (aS, .inl (K.1, 62, .inl fS)), (aA, .inl (K.1, 62, .inl fA)), (aB, .inl (K.1, 62, .inl fB)), (aN, .inl (K.1, 62, .inl fN)), (aT, .inl (K.2.2, 992, .inl (bd_app (bd_app fT n ([bd_ltN s9] ++ (bd_dg k) ++ [40] ++ (bd_dg a9) ++ [44] ++ (bd_dg b9) ++ [41] ++ [60])) (n + ([bd_ltN s9] ++ (bd_dg k) ++ [40] ++ (bd_dg a9) ++ [44] ++ (bd_dg b9) ++ [41] ++ [60]).length) (bd_dg n9))))]) (va_runV (As := [.int (nI n9)]) (rest := []) ⟨hx, hb, hml, hown, hw⟩ (c_B_writeNumber l G D K H.size h0 seed hM hO cnt aS aA aB aN aM aL vb vs aT (n + ([bd_ltN s9] ++ (bd_dg k) ++ [40] ++ (bd_dg a9) ++ [44] ++ (bd_dg b9) ++ [41] ++ [60]).length) (bd_app fT n ([bd_ltN s9] ++ (bd_dg k) ++ [40] ++ (bd_dg a9) ++ [44] ++ (bd_dg b9) ++ [41] ++ [60])) n9 (by simp only [List.length_append, List.length_cons, List.length_nil]; omega) (by first | omega | (have := bd_ltL s9 hs9; omega))) (cwV 1 hw (cx_gV k_237 k_239 ks_B_writeNumber k_1 k_240) rfl rfl rfl (by decide +kernel) ⟨Nat.le_of_ble_eq_true rfl, Nat.le_of_ble_eq_true rfl⟩) (cx_preV (q0 := 0) (ci := 1) hK hP hD hS hA hE rfl rfl [0, 5] rfl rfl (by decide)) rfl rfl hl.1 rfl (lv_room (Nat.le_of_ble_eq_true rfl)) d_B_writePart_88 ⟨Nat.le_of_ble_eq_true rfl, Nat.le_of_ble_eq_true rfl⟩) hP hD hS hA [0, 5] [1, 2, 3, 4] rfl rfl (by decide) (by decide) [4, 0, 1, 2, 3, 5] rfl rfl (by decide) (fun H locs hP hD hS => ?_)
      rw [bd_app_app, bd_tl] at hP hD
      have hP : va_P D vwCl [(h0, .inr (1, [.long seed, .ref hM, .ref hO, .int (nI cnt), .ref aS, .ref aA, .ref aB, .ref aN, .ref aM, .ref aL, .int vb, .int vs, .ref aT, .int (nI (n + ([bd_ltN s9] ++ (bd_dg k) ++ [40] ++ (bd_dg a9) ++ [44] ++ (bd_dg b9) ++ [41] ++ [60] ++ (bd_dg n9)).length))])), (aS, .inl (K.1, 62, .inl fS)), (aA, .inl (K.1, 62, .inl fA)), (aB, .inl (K.1, 62, .inl fB)), (aN, .inl (K.1, 62, .inl fN)), (aT, .inl (K.2.2, 992, .inl (bd_app fT n ([bd_ltN s9] ++ (bd_dg k) ++ [40] ++ (bd_dg a9) ++ [44] ++ (bd_dg b9) ++ [41] ++ [60] ++ (bd_dg n9)))))] H := hP
      have hD : va_D A [(h0, .inr (1, [.long seed, .ref hM, .ref hO, .int (nI cnt), .ref aS, .ref aA, .ref aB, .ref aN, .ref aM, .ref aL, .int vb, .int vs, .ref aT, .int (nI (n + ([bd_ltN s9] ++ (bd_dg k) ++ [40] ++ (bd_dg a9) ++ [44] ++ (bd_dg b9) ++ [41] ++ [60] ++ (bd_dg n9)).length))])), (aS, .inl (K.1, 62, .inl fS)), (aA, .inl (K.1, 62, .inl fA)), (aB, .inl (K.1, 62, .inl fB)), (aN, .inl (K.1, 62, .inl fN)), (aT, .inl (K.2.2, 992, .inl (bd_app fT n ([bd_ltN s9] ++ (bd_dg k) ++ [40] ++ (bd_dg a9) ++ [44] ++ (bd_dg b9) ++ [41] ++ [60] ++ (bd_dg n9)))))] := hD
      refine lv_aload_n hx hb d_B_writePart_91 rfl (lv_at hl 0 rfl) ?_
      refine lv_bipush (v := 59) hx hb d_B_writePart_92 (by decide) ?_
      refine cx_cv (wr := [(aS, .inl (K.1, 62, .inl fS)), (aA, .inl (K.1, 62, .inl fA)), (aB, .inl (K.1, 62, .inl fB)), (aN, .inl (K.1, 62, .inl fN))]) (wN := [(h0, .inr (1, [.long seed, .ref hM, .ref hO, .int (nI cnt), .ref aS, .ref aA, .ref aB, .ref aN, .ref aM, .ref aL, .int vb, .int vs, .ref aT, .int (nI (n + ([bd_ltN s9] ++ (bd_dg k) ++ [40] ++ (bd_dg a9) ++ [44] ++ (bd_dg b9) ++ [41] ++ [60] ++ (bd_dg n9)).length + ([59]).length))])), (aS, .inl (K.1, 62, .inl fS)), (aA, .inl (K.1, 62, .inl fA)), (aB, .inl (K.1, 62, .inl fB)), (aN, .inl (K.1, 62, .inl fN)), (aT, .inl (K.2.2, 992, .inl (bd_app (bd_app fT n ([bd_ltN s9] ++ (bd_dg k) ++ [40] ++ (bd_dg a9) ++ [44] ++ (bd_dg b9) ++ [41] ++ [60] ++ (bd_dg n9))) (n + ([bd_ltN s9] ++ (bd_dg k) ++ [40] ++ (bd_dg a9) ++ [44] ++ (bd_dg b9) ++ [41] ++ [60] ++ (bd_dg n9)).length) ([59]))))]) (va_runV (As := [.int 59]) (rest := []) ⟨hx, hb, hml, hown, hw⟩ (c_B_writeSign l G D K H.size h0 seed hM hO cnt aS aA aB aN aM aL vb vs aT (n + ([bd_ltN s9] ++ (bd_dg k) ++ [40] ++ (bd_dg a9) ++ [44] ++ (bd_dg b9) ++ [41] ++ [60] ++ (bd_dg n9)).length) (bd_app fT n ([bd_ltN s9] ++ (bd_dg k) ++ [40] ++ (bd_dg a9) ++ [44] ++ (bd_dg b9) ++ [41] ++ [60] ++ (bd_dg n9))) 59 (by simp only [List.length_append, List.length_cons, List.length_nil]; omega) (by first | omega | (have := bd_ltL s9 hs9; omega))) (cwV 1 hw (cx_gV k_233 k_235 ks_B_writeSign k_1 k_236) rfl rfl rfl (by decide +kernel) ⟨Nat.le_of_ble_eq_true rfl, Nat.le_of_ble_eq_true rfl⟩) (cx_preV (q0 := 0) (ci := 1) hK hP hD hS hA hE rfl rfl [0, 5] rfl rfl (by decide)) rfl rfl hl.1 rfl (lv_room (Nat.le_of_ble_eq_true rfl)) d_B_writePart_94 ⟨Nat.le_of_ble_eq_true rfl, Nat.le_of_ble_eq_true rfl⟩) hP hD hS hA [0, 5] [1, 2, 3, 4] rfl rfl (by decide) (by decide) [4, 0, 1, 2, 3, 5] rfl rfl (by decide) (fun H locs hP hD hS => ?_)
      rw [bd_app_app, bd_tl] at hP hD
      have hP : va_P D vwCl [(h0, .inr (1, [.long seed, .ref hM, .ref hO, .int (nI cnt), .ref aS, .ref aA, .ref aB, .ref aN, .ref aM, .ref aL, .int vb, .int vs, .ref aT, .int (nI (n + ([bd_ltN s9] ++ (bd_dg k) ++ [40] ++ (bd_dg a9) ++ [44] ++ (bd_dg b9) ++ [41] ++ [60] ++ (bd_dg n9) ++ [59]).length))])), (aS, .inl (K.1, 62, .inl fS)), (aA, .inl (K.1, 62, .inl fA)), (aB, .inl (K.1, 62, .inl fB)), (aN, .inl (K.1, 62, .inl fN)), (aT, .inl (K.2.2, 992, .inl (bd_app fT n ([bd_ltN s9] ++ (bd_dg k) ++ [40] ++ (bd_dg a9) ++ [44] ++ (bd_dg b9) ++ [41] ++ [60] ++ (bd_dg n9) ++ [59]))))] H := hP
      have hD : va_D A [(h0, .inr (1, [.long seed, .ref hM, .ref hO, .int (nI cnt), .ref aS, .ref aA, .ref aB, .ref aN, .ref aM, .ref aL, .int vb, .int vs, .ref aT, .int (nI (n + ([bd_ltN s9] ++ (bd_dg k) ++ [40] ++ (bd_dg a9) ++ [44] ++ (bd_dg b9) ++ [41] ++ [60] ++ (bd_dg n9) ++ [59]).length))])), (aS, .inl (K.1, 62, .inl fS)), (aA, .inl (K.1, 62, .inl fA)), (aB, .inl (K.1, 62, .inl fB)), (aN, .inl (K.1, 62, .inl fN)), (aT, .inl (K.2.2, 992, .inl (bd_app fT n ([bd_ltN s9] ++ (bd_dg k) ++ [40] ++ (bd_dg a9) ++ [44] ++ (bd_dg b9) ++ [41] ++ [60] ++ (bd_dg n9) ++ [59]))))] := hD
      exact cx_vret hx hb hr hlocks hK hP hD hS d_B_writePart_97 (by rw [show bd_pt k (fS k) (fA k) (fB k) (fN k) = [bd_ltN s9] ++ (bd_dg k) ++ [40] ++ (bd_dg a9) ++ [44] ++ (bd_dg b9) ++ [41] ++ [60] ++ (bd_dg n9) ++ [59] by rw [bd_pt, bd_ptN, if_neg r_72, hs, ha9, hb9, hn9, nI_clamp hlt_s, nI_clamp hlt_a, nI_clamp hlt_b, nI_clamp hlt_n]; simp only [List.append_assoc]])
  · have c_5 := r_5
    exact absurd r_5 (by decide)
set_option maxHeartbeats 4000000 in
set_option maxRecDepth 100000 in
theorem c_B_writeText (l : Launch) (G : cx_G) (D : va_G) (K : cx_KT) (sz : Nat) (h0 : Nat) (seed : Int64) (hM : Nat) (hO : Nat) (cnt : Nat) (aS : Nat) (aA : Nat) (aB : Nat) (aN : Nat) (aM : Nat) (aL : Nat) (vb : Int32) (vs : Int32) (aT : Nat) (tl : Int32) (fS : Nat → Int32) (fA : Nat → Int32) (fB : Nat → Int32) (fN : Nat → Int32) (fL : Nat → Int32) (fT : Nat → Int32) (hcnt : cnt ≤ 62) (hok : ∀ j, j < cnt → bd_ok (fS j) (fA j) (fB j) (fN j)) : Met l y_B_writeText w_B_writeText ({ frames := 6, cells := 0, slots := 0, locals := 126 }) (cx_Pc G D (cx_ty K) [(h0, .inr (1, [.long seed, .ref hM, .ref hO, .int (nI cnt), .ref aS, .ref aA, .ref aB, .ref aN, .ref aM, .ref aL, .int vb, .int vs, .ref aT, .int tl])), (aS, .inl (K.1, 62, .inl fS)), (aA, .inl (K.1, 62, .inl fA)), (aB, .inl (K.1, 62, .inl fB)), (aN, .inl (K.1, 62, .inl fN)), (aL, .inl (K.2.1, 62, .inl fL)), (aT, .inl (K.2.2, 992, .inl fT))] sz [.ref h0]) (cx_Qv D (cx_ty K) [(h0, .inr (1, [.long seed, .ref hM, .ref hO, .int (nI cnt), .ref aS, .ref aA, .ref aB, .ref aN, .ref aM, .ref aL, .int vb, .int vs, .ref aT, .int (nI (0 + (bd_tx fS fA fB fN fL cnt).length))])), (aS, .inl (K.1, 62, .inl fS)), (aA, .inl (K.1, 62, .inl fA)), (aB, .inl (K.1, 62, .inl fB)), (aN, .inl (K.1, 62, .inl fN)), (aL, .inl (K.2.1, 62, .inl fL)), (aT, .inl (K.2.2, 992, .inl (bd_app fT 0 (bd_tx fS fA fB fN fL cnt))))] (va_A [(h0, .inr (1, [.long seed, .ref hM, .ref hO, .int (nI cnt), .ref aS, .ref aA, .ref aB, .ref aN, .ref aM, .ref aL, .int vb, .int vs, .ref aT, .int tl])), (aS, .inl (K.1, 62, .inl fS)), (aA, .inl (K.1, 62, .inl fA)), (aB, .inl (K.1, 62, .inl fB)), (aN, .inl (K.1, 62, .inl fN)), (aL, .inl (K.2.1, 62, .inl fL)), (aT, .inl (K.2.2, 992, .inl fT))] sz)) 0 0 (va_A [(h0, .inr (1, [.long seed, .ref hM, .ref hO, .int (nI cnt), .ref aS, .ref aA, .ref aB, .ref aN, .ref aM, .ref aL, .int vb, .int vs, .ref aT, .int tl])), (aS, .inl (K.1, 62, .inl fS)), (aA, .inl (K.1, 62, .inl fA)), (aB, .inl (K.1, 62, .inl fB)), (aN, .inl (K.1, 62, .inl fN)), (aL, .inl (K.2.1, 62, .inl fL)), (aT, .inl (K.2.2, 992, .inl fT))] sz) := by
  refine Met.ofW (cc := prog_1_method_20_code) (maxL := 2) (ret := none) (by decide) rfl ?_
  intro p e s m args below meth c s₁ B hml hv
  obtain ⟨rfl, hsz, hP, hK, hD0, hE⟩ := hv
  have hx := B.exec
  have hb := B.bytes
  have hr := B.returns
  have hts := atoms_spec (ws := w_B_writeText) B.pre
  have hw : ∀ w ∈ cw, w.before _ s = true := fun w h => hts w (List.mem_cons_of_mem _ h)
  have hown : s.vm.findClass "BuildDrawer" = some m.cls := findClass_of_methodNamed B.named
  have hlocks := B.notSynchronized
  subst hsz
  have hD := hD0.self (sz := s.heap.size)
  generalize hAe : va_A [(h0, .inr (1, [.long seed, .ref hM, .ref hO, .int (nI cnt), .ref aS, .ref aA, .ref aB, .ref aN, .ref aM, .ref aL, .int vb, .int vs, .ref aT, .int tl])), (aS, .inl (K.1, 62, .inl fS)), (aA, .inl (K.1, 62, .inl fA)), (aB, .inl (K.1, 62, .inl fB)), (aN, .inl (K.1, 62, .inl fN)), (aL, .inl (K.2.1, 62, .inl fL)), (aT, .inl (K.2.2, 992, .inl fT))] s.heap.size = A at hD hE ⊢
  have hA : ∀ q : Nat, s.heap.size ≤ q → A q := fun q h => by rw [← hAe]; exact Or.inr h
  have hS : va_S A s.heap s.heap [] := va_S.rf
  have hl := lv_entry ([.ref h0]) (n := 2) (Nat.le_of_ble_eq_true rfl)
  rw [lg_entry_eq]
  generalize (lg_sl ([.ref h0]) ++ List.replicate (2 - (lg_sl ([.ref h0])).length) Slot.unset).toArray = ls at hl ⊢
  have hl : lv_has ls 2 [(0, .ref h0)] := hl
  refine lv_aload_n hx hb d_B_writeText_0 rfl (lv_at hl 0 rfl) ?_
  refine lv_iconst (v := 0) hx hb d_B_writeText_1 (by decide) ?_
  refine va_put (D := D) (ci := 1) (v := .int 0) (ty := .int) (C := "BuildDrawer") (T := TB) (N := 14) hx hb hw inB tyB tyB_ok nmB hown hK hP hD hS 0 rfl rfl 13 (by decide) (hw _ k_69) (fun _ h9 => h9) rfl (by decide +kernel) rfl rfl (Nat.le_of_ble_eq_true rfl) d_B_writeText_2 (fun H locs hP hD hS => ?_)
  have hP : va_P D vwCl [(h0, .inr (1, [.long seed, .ref hM, .ref hO, .int (nI cnt), .ref aS, .ref aA, .ref aB, .ref aN, .ref aM, .ref aL, .int vb, .int vs, .ref aT, .int 0])), (aS, .inl (K.1, 62, .inl fS)), (aA, .inl (K.1, 62, .inl fA)), (aB, .inl (K.1, 62, .inl fB)), (aN, .inl (K.1, 62, .inl fN)), (aL, .inl (K.2.1, 62, .inl fL)), (aT, .inl (K.2.2, 992, .inl fT))] H := hP
  have hD : va_D A [(h0, .inr (1, [.long seed, .ref hM, .ref hO, .int (nI cnt), .ref aS, .ref aA, .ref aB, .ref aN, .ref aM, .ref aL, .int vb, .int vs, .ref aT, .int 0])), (aS, .inl (K.1, 62, .inl fS)), (aA, .inl (K.1, 62, .inl fA)), (aB, .inl (K.1, 62, .inl fB)), (aN, .inl (K.1, 62, .inl fN)), (aL, .inl (K.2.1, 62, .inl fL)), (aT, .inl (K.2.2, 992, .inl fT))] := hD
  refine lv_iconst (v := 0) hx hb d_B_writeText_5 (by decide) ?_
  refine lv_istore_n (lv' := [(1, .int 0), (0, .ref h0)]) hx hb d_B_writeText_6 rfl hl (by decide) rfl (fun ls hl => ?_)
  have hP : va_P D vwCl [(h0, .inr (1, [.long seed, .ref hM, .ref hO, .int (nI cnt), .ref aS, .ref aA, .ref aB, .ref aN, .ref aM, .ref aL, .int vb, .int vs, .ref aT, .int (nI (0 + (bd_tx fS fA fB fN fL 0).length))])), (aS, .inl (K.1, 62, .inl fS)), (aA, .inl (K.1, 62, .inl fA)), (aB, .inl (K.1, 62, .inl fB)), (aN, .inl (K.1, 62, .inl fN)), (aL, .inl (K.2.1, 62, .inl fL)), (aT, .inl (K.2.2, 992, .inl (bd_app fT 0 (bd_tx fS fA fB fN fL 0))))] H := by rw [show bd_app fT 0 (bd_tx fS fA fB fN fL 0) = fT from bd_app0 _ _]; exact hP
  have hD : va_D A [(h0, .inr (1, [.long seed, .ref hM, .ref hO, .int (nI cnt), .ref aS, .ref aA, .ref aB, .ref aN, .ref aM, .ref aL, .int vb, .int vs, .ref aT, .int (nI (0 + (bd_tx fS fA fB fN fL 0).length))])), (aS, .inl (K.1, 62, .inl fS)), (aA, .inl (K.1, 62, .inl fA)), (aB, .inl (K.1, 62, .inl fB)), (aN, .inl (K.1, 62, .inl fN)), (aL, .inl (K.2.1, 62, .inl fL)), (aT, .inl (K.2.2, 992, .inl (bd_app fT 0 (bd_tx fS fA fB fN fL 0))))] := by rw [show bd_app fT 0 (bd_tx fS fA fB fN fL 0) = fT from bd_app0 _ _]; exact hD
  refine cx_loop (pc := 7) (st := []) (fun (i : Nat) H locs ls => (i ≤ cnt) ∧ va_P D vwCl [(h0, .inr (1, [.long seed, .ref hM, .ref hO, .int (nI cnt), .ref aS, .ref aA, .ref aB, .ref aN, .ref aM, .ref aL, .int vb, .int vs, .ref aT, .int (nI (0 + (bd_tx fS fA fB fN fL i).length))])), (aS, .inl (K.1, 62, .inl fS)), (aA, .inl (K.1, 62, .inl fA)), (aB, .inl (K.1, 62, .inl fB)), (aN, .inl (K.1, 62, .inl fN)), (aL, .inl (K.2.1, 62, .inl fL)), (aT, .inl (K.2.2, 992, .inl (bd_app fT 0 (bd_tx fS fA fB fN fL i))))] H ∧ va_D A [(h0, .inr (1, [.long seed, .ref hM, .ref hO, .int (nI cnt), .ref aS, .ref aA, .ref aB, .ref aN, .ref aM, .ref aL, .int vb, .int vs, .ref aT, .int (nI (0 + (bd_tx fS fA fB fN fL i).length))])), (aS, .inl (K.1, 62, .inl fS)), (aA, .inl (K.1, 62, .inl fA)), (aB, .inl (K.1, 62, .inl fB)), (aN, .inl (K.1, 62, .inl fN)), (aL, .inl (K.2.1, 62, .inl fL)), (aT, .inl (K.2.2, 992, .inl (bd_app fT 0 (bd_tx fS fA fB fN fL i))))] ∧ va_S A s.heap H locs ∧ lv_has ls 2 [(1, .int (nI i)), (0, .ref h0)]) (fun (i : Nat) => cnt - i) (fun z H locs ls hI ih_7 => ?_) 0 ⟨Nat.zero_le _, hP, hD, hS, lv_sub hl [0, 1] rfl⟩
  obtain ⟨i, rfl⟩ : ∃ y, y = z := ⟨_, rfl⟩
  obtain ⟨hi, hP, hD, hS, hl⟩ := hI
  have hP : va_P D vwCl [(h0, .inr (1, [.long seed, .ref hM, .ref hO, .int (nI cnt), .ref aS, .ref aA, .ref aB, .ref aN, .ref aM, .ref aL, .int vb, .int vs, .ref aT, .int (nI (0 + (bd_tx fS fA fB fN fL i).length))])), (aS, .inl (K.1, 62, .inl fS)), (aA, .inl (K.1, 62, .inl fA)), (aB, .inl (K.1, 62, .inl fB)), (aN, .inl (K.1, 62, .inl fN)), (aL, .inl (K.2.1, 62, .inl fL)), (aT, .inl (K.2.2, 992, .inl (bd_app fT 0 (bd_tx fS fA fB fN fL i))))] H := hP
  have hD : va_D A [(h0, .inr (1, [.long seed, .ref hM, .ref hO, .int (nI cnt), .ref aS, .ref aA, .ref aB, .ref aN, .ref aM, .ref aL, .int vb, .int vs, .ref aT, .int (nI (0 + (bd_tx fS fA fB fN fL i).length))])), (aS, .inl (K.1, 62, .inl fS)), (aA, .inl (K.1, 62, .inl fA)), (aB, .inl (K.1, 62, .inl fB)), (aN, .inl (K.1, 62, .inl fN)), (aL, .inl (K.2.1, 62, .inl fL)), (aT, .inl (K.2.2, 992, .inl (bd_app fT 0 (bd_tx fS fA fB fN fL i))))] := hD
  have hl : lv_has ls 2 [(1, .int (nI i)), (0, .ref h0)] := hl
  refine lv_iload_n hx hb d_B_writeText_7 rfl (lv_at hl 0 rfl) ?_
  refine lv_aload_n hx hb d_B_writeText_8 rfl (lv_at hl 1 rfl) ?_
  refine va_get (D := D) (ci := 1) (v := .int (nI cnt)) (C := "BuildDrawer") (T := TB) (N := 14) hx hb hw inB hown hK hP 0 rfl rfl 3 (by decide) (hw _ k_59) (fun _ h9 => h9) rfl d_B_writeText_9 ?_
  refine lv_icmp_ge (tgt := 43) hx hb d_B_writeText_12 (by decide) (fun r_12 => ?_) (fun r_12 => ?_)
  · have c_12 := (nI_leI (a := cnt) (b := i) (by omega) (by omega)).mp r_12
    exact cx_vret hx hb hr hlocks hK hP hD hS d_B_writeText_43 (by rw [show i = cnt by omega])
  · have c_12 := mt (nI_leI (a := cnt) (b := i) (by omega) (by omega)).mpr r_12
    refine lv_aload_n hx hb d_B_writeText_15 rfl (lv_at hl 1 rfl) ?_
    refine lv_iload_n hx hb d_B_writeText_16 rfl (lv_at hl 0 rfl) ?_
    refine cx_ci (wr := [(aS, .inl (K.1, 62, .inl fS)), (aA, .inl (K.1, 62, .inl fA)), (aB, .inl (K.1, 62, .inl fB)), (aN, .inl (K.1, 62, .inl fN)), (aL, .inl (K.2.1, 62, .inl fL)), (aT, .inl (K.2.2, 992, .inl (bd_app fT 0 (bd_tx fS fA fB fN fL i))))]) (wN := [(h0, .inr (1, [.long seed, .ref hM, .ref hO, .int (nI cnt), .ref aS, .ref aA, .ref aB, .ref aN, .ref aM, .ref aL, .int vb, .int vs, .ref aT, .int (nI (0 + (bd_tx fS fA fB fN fL i).length))])), (aS, .inl (K.1, 62, .inl fS)), (aA, .inl (K.1, 62, .inl fA)), (aB, .inl (K.1, 62, .inl fB)), (aN, .inl (K.1, 62, .inl fN)), (aL, .inl (K.2.1, 62, .inl fL)), (aT, .inl (K.2.2, 992, .inl (bd_app fT 0 (bd_tx fS fA fB fN fL i))))]) (va_runV (As := [.int (nI i)]) (rest := []) ⟨hx, hb, hml, hown, hw⟩ (c_B_isPart l G D K H.size h0 seed hM hO cnt aS aA aB aN aM aL vb vs aT (nI (0 + (bd_tx fS fA fB fN fL i).length)) (nI i)) (cwV 1 hw (cx_gV k_153 k_155 ks_B_isPart k_1 k_156) rfl rfl rfl (by decide +kernel) ⟨Nat.le_of_ble_eq_true rfl, Nat.le_of_ble_eq_true rfl⟩) (cx_preV (q0 := 0) (ci := 1) hK hP hD hS hA hE rfl rfl [0] rfl rfl (by decide)) rfl rfl hl.1 rfl (lv_room (Nat.le_of_ble_eq_true rfl)) d_B_writeText_17 ⟨Nat.le_of_ble_eq_true rfl, Nat.le_of_ble_eq_true rfl⟩) hP hD hS hA [0] [1, 2, 3, 4, 5, 6] rfl rfl (by decide) (by decide) [6, 0, 1, 2, 3, 4, 5] rfl rfl (by decide) (fun H locs hP hD hS => ?_)
    refine cx_ti (y := 1) (bd_ip_in hcnt (by omega)) ?_
    refine lv_if_eq (tgt := 37) hx hb d_B_writeText_20 (by decide) (fun r_20 => ?_) (fun r_20 => ?_)
    · have c_20 := r_20
      exact absurd r_20 (by decide)
    · have c_20 := r_20
      refine lv_aload_n hx hb d_B_writeText_23 rfl (lv_at hl 1 rfl) ?_
      refine va_get (D := D) (ci := 1) (v := .ref aL) (C := "BuildDrawer") (T := TB) (N := 14) hx hb hw inB hown hK hP 0 rfl rfl 9 (by decide) (hw _ k_65) (fun _ h9 => h9) rfl d_B_writeText_24 ?_
      refine lv_iload_n hx hb d_B_writeText_27 rfl (lv_at hl 0 rfl) ?_
      refine va_zald hx hb hK hP 5 1 rfl rfl (vp_in_nI (n := i) (by omega) (by omega)) d_B_writeText_28 ?_
      refine cx_ti (y := fL i) (by rw [nI_clamp (by omega)]) ?_
      refine lv_if_eq (tgt := 37) hx hb d_B_writeText_29 (by decide) (fun r_29 => ?_) (fun r_29 => ?_)
      · have c_29 := r_29
        have e_i : (bd_tx fS fA fB fN fL (i + 1)) = (bd_tx fS fA fB fN fL i) := by rw [bd_tx, if_pos r_29]
        rw [← e_i] at hP hD
        refine lv_iinc (v := nI (i + 1)) (lv' := [(1, .int (nI (i + 1))), (0, .ref h0)]) hx hb d_B_writeText_37 hl (k := 0) rfl (by exact cx_inc i) (by decide) rfl (fun ls hl => ?_)
        refine lv_goto (tgt := 7) hx hb d_B_writeText_40 (by decide) ?_
        exact ih_7 (i + 1) _ _ _ ⟨(by omega), hP, hD, hS, lv_sub hl [0, 1] rfl⟩ (by omega)
      · have c_29 := r_29
        have e_i : (bd_tx fS fA fB fN fL (i + 1)) = (bd_tx fS fA fB fN fL i) ++ bd_pt i (fS i) (fA i) (fB i) (fN i) := by rw [bd_tx, if_neg r_29]
        refine lv_aload_n hx hb d_B_writeText_32 rfl (lv_at hl 1 rfl) ?_
        refine lv_iload_n hx hb d_B_writeText_33 rfl (lv_at hl 0 rfl) ?_
        refine cx_cv (wr := [(aL, .inl (K.2.1, 62, .inl fL))]) (wN := [(h0, .inr (1, [.long seed, .ref hM, .ref hO, .int (nI cnt), .ref aS, .ref aA, .ref aB, .ref aN, .ref aM, .ref aL, .int vb, .int vs, .ref aT, .int (nI (0 + (bd_tx fS fA fB fN fL i).length + (bd_pt i (fS i) (fA i) (fB i) (fN i)).length))])), (aS, .inl (K.1, 62, .inl fS)), (aA, .inl (K.1, 62, .inl fA)), (aB, .inl (K.1, 62, .inl fB)), (aN, .inl (K.1, 62, .inl fN)), (aL, .inl (K.2.1, 62, .inl fL)), (aT, .inl (K.2.2, 992, .inl (bd_app (bd_app fT 0 (bd_tx fS fA fB fN fL i)) (0 + (bd_tx fS fA fB fN fL i).length) (bd_pt i (fS i) (fA i) (fB i) (fN i)))))]) (va_runV (As := [.int (nI i)]) (rest := []) ⟨hx, hb, hml, hown, hw⟩ (c_B_writePart l G D K H.size h0 seed hM hO cnt aS aA aB aN aM aL vb vs aT (0 + (bd_tx fS fA fB fN fL i).length) fS fA fB fN (bd_app fT 0 (bd_tx fS fA fB fN fL i)) i (by omega) (by omega) (by have := bd_tx_len (fL := fL) (n := i) (by omega) (fun j hj => hok j (by omega)); omega) (hok i (by omega))) (cwV 1 hw (cx_gV k_177 k_179 ks_B_writePart k_1 k_180) rfl rfl rfl (by decide +kernel) ⟨Nat.le_of_ble_eq_true rfl, Nat.le_of_ble_eq_true rfl⟩) (cx_preV (q0 := 0) (ci := 1) hK hP hD hS hA hE rfl rfl [0, 1, 2, 3, 4, 6] rfl rfl (by decide)) rfl rfl hl.1 rfl (lv_room (Nat.le_of_ble_eq_true rfl)) d_B_writeText_34 ⟨Nat.le_of_ble_eq_true rfl, Nat.le_of_ble_eq_true rfl⟩) hP hD hS hA [0, 1, 2, 3, 4, 6] [5] rfl rfl (by decide) (by decide) [1, 2, 3, 4, 5, 0, 6] rfl rfl (by decide) (fun H locs hP hD hS => ?_)
        rw [bd_app_app, bd_tl, ← e_i] at hP hD
        have hP : va_P D vwCl [(h0, .inr (1, [.long seed, .ref hM, .ref hO, .int (nI cnt), .ref aS, .ref aA, .ref aB, .ref aN, .ref aM, .ref aL, .int vb, .int vs, .ref aT, .int (nI (0 + (bd_tx fS fA fB fN fL (i + 1)).length))])), (aS, .inl (K.1, 62, .inl fS)), (aA, .inl (K.1, 62, .inl fA)), (aB, .inl (K.1, 62, .inl fB)), (aN, .inl (K.1, 62, .inl fN)), (aL, .inl (K.2.1, 62, .inl fL)), (aT, .inl (K.2.2, 992, .inl (bd_app fT 0 (bd_tx fS fA fB fN fL (i + 1)))))] H := hP
        have hD : va_D A [(h0, .inr (1, [.long seed, .ref hM, .ref hO, .int (nI cnt), .ref aS, .ref aA, .ref aB, .ref aN, .ref aM, .ref aL, .int vb, .int vs, .ref aT, .int (nI (0 + (bd_tx fS fA fB fN fL (i + 1)).length))])), (aS, .inl (K.1, 62, .inl fS)), (aA, .inl (K.1, 62, .inl fA)), (aB, .inl (K.1, 62, .inl fB)), (aN, .inl (K.1, 62, .inl fN)), (aL, .inl (K.2.1, 62, .inl fL)), (aT, .inl (K.2.2, 992, .inl (bd_app fT 0 (bd_tx fS fA fB fN fL (i + 1)))))] := hD
        refine lv_iinc (v := nI (i + 1)) (lv' := [(1, .int (nI (i + 1))), (0, .ref h0)]) hx hb d_B_writeText_37 hl (k := 0) rfl (by exact cx_inc i) (by decide) rfl (fun ls hl => ?_)
        refine lv_goto (tgt := 7) hx hb d_B_writeText_40 (by decide) ?_
        exact ih_7 (i + 1) _ _ _ ⟨(by omega), hP, hD, hS, lv_sub hl [0, 1] rfl⟩ (by omega)
set_option maxHeartbeats 4000000 in
set_option maxRecDepth 100000 in
theorem c_B_letter (l : Launch) (G : cx_G) (D : va_G) (K : cx_KT) (sz : Nat) (h0 : Nat) (seed : Int64) (hM : Nat) (hO : Nat) (cnt : Nat) (aS : Nat) (aA : Nat) (aB : Nat) (aN : Nat) (aM : Nat) (aL : Nat) (vb : Int32) (vs : Int32) (aT : Nat) (fS : Nat → Int32) (fA : Nat → Int32) (fB : Nat → Int32) (fN : Nat → Int32) (fL : Nat → Int32) (fT : Nat → Int32) (i : Int32) (hcnt : cnt ≤ 62) (hok : ∀ j, j < cnt → bd_ok (fS j) (fA j) (fB j) (fN j)) : Met l y_B_letter w_B_letter ({ frames := 7, cells := 0, slots := 0, locals := 147 }) (cx_Pc G D (cx_ty K) [(h0, .inr (1, [.long seed, .ref hM, .ref hO, .int (nI cnt), .ref aS, .ref aA, .ref aB, .ref aN, .ref aM, .ref aL, .int vb, .int vs, .ref aT, .int (-1)])), (aS, .inl (K.1, 62, .inl fS)), (aA, .inl (K.1, 62, .inl fA)), (aB, .inl (K.1, 62, .inl fB)), (aN, .inl (K.1, 62, .inl fN)), (aL, .inl (K.2.1, 62, .inl fL)), (aT, .inl (K.2.2, 992, .inl fT))] sz [.ref h0, .int i]) (cx_Qi (bd_ch (bd_tx fS fA fB fN fL cnt) i) D (cx_ty K) [(h0, .inr (1, [.long seed, .ref hM, .ref hO, .int (nI cnt), .ref aS, .ref aA, .ref aB, .ref aN, .ref aM, .ref aL, .int vb, .int vs, .ref aT, .int (nI (0 + (bd_tx fS fA fB fN fL cnt).length))])), (aS, .inl (K.1, 62, .inl fS)), (aA, .inl (K.1, 62, .inl fA)), (aB, .inl (K.1, 62, .inl fB)), (aN, .inl (K.1, 62, .inl fN)), (aL, .inl (K.2.1, 62, .inl fL)), (aT, .inl (K.2.2, 992, .inl (bd_app fT 0 (bd_tx fS fA fB fN fL cnt))))] (va_A [(h0, .inr (1, [.long seed, .ref hM, .ref hO, .int (nI cnt), .ref aS, .ref aA, .ref aB, .ref aN, .ref aM, .ref aL, .int vb, .int vs, .ref aT, .int (-1)])), (aS, .inl (K.1, 62, .inl fS)), (aA, .inl (K.1, 62, .inl fA)), (aB, .inl (K.1, 62, .inl fB)), (aN, .inl (K.1, 62, .inl fN)), (aL, .inl (K.2.1, 62, .inl fL)), (aT, .inl (K.2.2, 992, .inl fT))] sz)) 0 0 (va_A [(h0, .inr (1, [.long seed, .ref hM, .ref hO, .int (nI cnt), .ref aS, .ref aA, .ref aB, .ref aN, .ref aM, .ref aL, .int vb, .int vs, .ref aT, .int (-1)])), (aS, .inl (K.1, 62, .inl fS)), (aA, .inl (K.1, 62, .inl fA)), (aB, .inl (K.1, 62, .inl fB)), (aN, .inl (K.1, 62, .inl fN)), (aL, .inl (K.2.1, 62, .inl fL)), (aT, .inl (K.2.2, 992, .inl fT))] sz) := by
  refine Met.ofW (cc := prog_1_method_4_code) (maxL := 2) (ret := (some .int)) (by decide) rfl ?_
  intro p e s m args below meth c s₁ B hml hv
  obtain ⟨rfl, hsz, hP, hK, hD0, hE⟩ := hv
  have hx := B.exec
  have hb := B.bytes
  have hr := B.returns
  have hts := atoms_spec (ws := w_B_letter) B.pre
  have hw : ∀ w ∈ cw, w.before _ s = true := fun w h => hts w (List.mem_cons_of_mem _ h)
  have hown : s.vm.findClass "BuildDrawer" = some m.cls := findClass_of_methodNamed B.named
  have hlocks := B.notSynchronized
  subst hsz
  have hD := hD0.self (sz := s.heap.size)
  generalize hAe : va_A [(h0, .inr (1, [.long seed, .ref hM, .ref hO, .int (nI cnt), .ref aS, .ref aA, .ref aB, .ref aN, .ref aM, .ref aL, .int vb, .int vs, .ref aT, .int (-1)])), (aS, .inl (K.1, 62, .inl fS)), (aA, .inl (K.1, 62, .inl fA)), (aB, .inl (K.1, 62, .inl fB)), (aN, .inl (K.1, 62, .inl fN)), (aL, .inl (K.2.1, 62, .inl fL)), (aT, .inl (K.2.2, 992, .inl fT))] s.heap.size = A at hD hE ⊢
  have hA : ∀ q : Nat, s.heap.size ≤ q → A q := fun q h => by rw [← hAe]; exact Or.inr h
  have hS : va_S A s.heap s.heap [] := va_S.rf
  have hl := lv_entry ([.ref h0, .int i]) (n := 2) (Nat.le_of_ble_eq_true rfl)
  rw [lg_entry_eq]
  generalize (lg_sl ([.ref h0, .int i]) ++ List.replicate (2 - (lg_sl ([.ref h0, .int i])).length) Slot.unset).toArray = ls at hl ⊢
  have hl : lv_has ls 2 [(0, .ref h0), (1, .int i)] := hl
  have hlen := bd_tx_len (fL := fL) (n := cnt) hcnt hok
  refine lv_aload_n hx hb d_B_letter_0 rfl (lv_at hl 0 rfl) ?_
  refine va_get (D := D) (ci := 1) (v := .int (-1)) (C := "BuildDrawer") (T := TB) (N := 14) hx hb hw inB hown hK hP 0 rfl rfl 13 (by decide) (hw _ k_69) (fun _ h9 => h9) rfl d_B_letter_1 ?_
  refine lv_iconst (v := (-1)) hx hb d_B_letter_4 (by decide) ?_
  refine lv_icmp_ne (tgt := 12) hx hb d_B_letter_5 (by decide) (fun r_5 => ?_) (fun r_5 => ?_)
  · have c_5 := r_5
    exact absurd rfl r_5
  · have c_5 := r_5
    refine lv_aload_n hx hb d_B_letter_8 rfl (lv_at hl 0 rfl) ?_
    refine cx_cv (wr := []) (wN := [(h0, .inr (1, [.long seed, .ref hM, .ref hO, .int (nI cnt), .ref aS, .ref aA, .ref aB, .ref aN, .ref aM, .ref aL, .int vb, .int vs, .ref aT, .int (nI (0 + (bd_tx fS fA fB fN fL cnt).length))])), (aS, .inl (K.1, 62, .inl fS)), (aA, .inl (K.1, 62, .inl fA)), (aB, .inl (K.1, 62, .inl fB)), (aN, .inl (K.1, 62, .inl fN)), (aL, .inl (K.2.1, 62, .inl fL)), (aT, .inl (K.2.2, 992, .inl (bd_app fT 0 (bd_tx fS fA fB fN fL cnt))))]) (va_runV (As := []) (rest := []) ⟨hx, hb, hml, hown, hw⟩ (c_B_writeText l G D K s.heap.size h0 seed hM hO cnt aS aA aB aN aM aL vb vs aT (-1) fS fA fB fN fL fT (by omega) hok) (cwV 0 hw (cx_gV k_173 k_175 ks_B_writeText k_1 k_176) rfl rfl rfl (by decide +kernel) ⟨Nat.le_of_ble_eq_true rfl, Nat.le_of_ble_eq_true rfl⟩) (cx_preV (q0 := 0) (ci := 1) hK hP hD hS hA hE rfl rfl [0, 1, 2, 3, 4, 5, 6] rfl rfl (by decide)) rfl rfl hl.1 rfl (lv_room (Nat.le_of_ble_eq_true rfl)) d_B_letter_9 ⟨Nat.le_of_ble_eq_true rfl, Nat.le_of_ble_eq_true rfl⟩) hP hD hS hA [0, 1, 2, 3, 4, 5, 6] [] rfl rfl (by decide) (by decide) [0, 1, 2, 3, 4, 5, 6] rfl rfl (by decide) (fun H locs hP hD hS => ?_)
    refine lv_iload_n hx hb d_B_letter_12 rfl (lv_at hl 1 rfl) ?_
    refine lv_if_lt (tgt := 31) hx hb d_B_letter_13 (by decide) (fun r_13 => ?_) (fun r_13 => ?_)
    · have c_13 := r_13
      refine lv_iconst (v := (-1)) hx hb d_B_letter_31 (by decide) ?_
      exact cx_iret hx hb hr hlocks hK hP hD hS d_B_letter_32 (by rw [bd_ch, if_pos r_13]) (rfl)
    · have c_13 := r_13
      refine lv_iload_n hx hb d_B_letter_16 rfl (lv_at hl 1 rfl) ?_
      refine lv_aload_n hx hb d_B_letter_17 rfl (lv_at hl 0 rfl) ?_
      refine va_get (D := D) (ci := 1) (v := .int (nI (0 + (bd_tx fS fA fB fN fL cnt).length))) (C := "BuildDrawer") (T := TB) (N := 14) hx hb hw inB hown hK hP 0 rfl rfl 13 (by decide) (hw _ k_69) (fun _ h9 => h9) rfl d_B_letter_18 ?_
      refine lv_icmp_ge (tgt := 31) hx hb d_B_letter_21 (by decide) (fun r_21 => ?_) (fun r_21 => ?_)
      · have c_21 := r_21
        rw [Nat.zero_add] at r_21
        refine lv_iconst (v := (-1)) hx hb d_B_letter_31 (by decide) ?_
        exact cx_iret hx hb hr hlocks hK hP hD hS d_B_letter_32 (by rw [bd_ch, if_neg r_13, if_pos r_21]) (rfl)
      · have c_21 := r_21
        rw [Nat.zero_add] at r_21
        obtain ⟨j9, hj9, rfl⟩ : ∃ j, j < (bd_tx fS fA fB fN fL cnt).length ∧ i = nI j := by
          rcases pk_ix i (n := (bd_tx fS fA fB fN fL cnt).length) (by omega) with h | h | h
          · exact absurd h r_13
          · exact absurd h r_21
          · exact h
        refine lv_iload_n hx hb d_B_letter_24 rfl (lv_at hl 1 rfl) ?_
        refine lv_sipush (v := 992) hx hb d_B_letter_25 (by decide) ?_
        refine lv_icmp_lt (tgt := 33) hx hb d_B_letter_28 (by decide) (fun r_28 => ?_) (fun r_28 => ?_)
        · have c_28 := (nI_ltI (a := j9) (b := 992) (by omega) (by omega)).mp r_28
          refine lv_aload_n hx hb d_B_letter_33 rfl (lv_at hl 0 rfl) ?_
          refine va_get (D := D) (ci := 1) (v := .ref aT) (C := "BuildDrawer") (T := TB) (N := 14) hx hb hw inB hown hK hP 0 rfl rfl 12 (by decide) (hw _ k_68) (fun _ h9 => h9) rfl d_B_letter_34 ?_
          refine lv_iload_n hx hb d_B_letter_37 rfl (lv_at hl 1 rfl) ?_
          refine va_cald hx hb hK hP 6 2 rfl rfl (vp_in_nI (n := j9) (by omega) (by omega)) d_B_letter_38 ?_
          refine cx_ti (y := (bd_app fT 0 (bd_tx fS fA fB fN fL cnt)) j9) (by rw [nI_clamp (by omega)]) ?_
          exact cx_iret hx hb hr hlocks hK hP hD hS d_B_letter_39 (by rw [bd_ch, if_neg r_13, if_neg r_21, nI_clamp (by omega)]; exact (if_pos ⟨Nat.zero_le _, by omega⟩).trans (by rw [Nat.sub_zero])) (rfl)
        · have c_28 := mt (nI_ltI (a := j9) (b := 992) (by omega) (by omega)).mpr r_28
          omega
set_option maxHeartbeats 4000000 in
set_option maxRecDepth 100000 in
theorem c_B_letterC (l : Launch) (G : cx_G) (D : va_G) (K : cx_KT) (sz : Nat) (h0 : Nat) (seed : Int64) (hM : Nat) (hO : Nat) (cnt : Nat) (aS : Nat) (aA : Nat) (aB : Nat) (aN : Nat) (aM : Nat) (aL : Nat) (vb : Int32) (vs : Int32) (aT : Nat) (fT : Nat → Int32) (Lx : List Nat) (i : Int32) (hL : Lx.length ≤ 992) (hT : ∀ j, j < Lx.length → fT j = nI (Lx.getD j 0)) : Met l y_B_letter w_B_letter ({ frames := 0, cells := 0, slots := 0, locals := 0 }) (cx_Pc G D (cx_ty K) [(h0, .inr (1, [.long seed, .ref hM, .ref hO, .int (nI cnt), .ref aS, .ref aA, .ref aB, .ref aN, .ref aM, .ref aL, .int vb, .int vs, .ref aT, .int (nI Lx.length)])), (aT, .inl (K.2.2, 992, .inl fT))] sz [.ref h0, .int i]) (cx_Qi (bd_ch Lx i) D (cx_ty K) [(h0, .inr (1, [.long seed, .ref hM, .ref hO, .int (nI cnt), .ref aS, .ref aA, .ref aB, .ref aN, .ref aM, .ref aL, .int vb, .int vs, .ref aT, .int (nI Lx.length)])), (aT, .inl (K.2.2, 992, .inl fT))] (va_A [(h0, .inr (1, [.long seed, .ref hM, .ref hO, .int (nI cnt), .ref aS, .ref aA, .ref aB, .ref aN, .ref aM, .ref aL, .int vb, .int vs, .ref aT, .int (nI Lx.length)])), (aT, .inl (K.2.2, 992, .inl fT))] sz)) 0 0 (va_A [(h0, .inr (1, [.long seed, .ref hM, .ref hO, .int (nI cnt), .ref aS, .ref aA, .ref aB, .ref aN, .ref aM, .ref aL, .int vb, .int vs, .ref aT, .int (nI Lx.length)])), (aT, .inl (K.2.2, 992, .inl fT))] sz) := by
  refine Met.ofW (cc := prog_1_method_4_code) (maxL := 2) (ret := (some .int)) (by decide) rfl ?_
  intro p e s m args below meth c s₁ B hml hv
  obtain ⟨rfl, hsz, hP, hK, hD0, hE⟩ := hv
  have hx := B.exec
  have hb := B.bytes
  have hr := B.returns
  have hts := atoms_spec (ws := w_B_letter) B.pre
  have hw : ∀ w ∈ cw, w.before _ s = true := fun w h => hts w (List.mem_cons_of_mem _ h)
  have hown : s.vm.findClass "BuildDrawer" = some m.cls := findClass_of_methodNamed B.named
  have hlocks := B.notSynchronized
  subst hsz
  have hD := hD0.self (sz := s.heap.size)
  generalize hAe : va_A [(h0, .inr (1, [.long seed, .ref hM, .ref hO, .int (nI cnt), .ref aS, .ref aA, .ref aB, .ref aN, .ref aM, .ref aL, .int vb, .int vs, .ref aT, .int (nI Lx.length)])), (aT, .inl (K.2.2, 992, .inl fT))] s.heap.size = A at hD hE ⊢
  have hA : ∀ q : Nat, s.heap.size ≤ q → A q := fun q h => by rw [← hAe]; exact Or.inr h
  have hS : va_S A s.heap s.heap [] := va_S.rf
  have hl := lv_entry ([.ref h0, .int i]) (n := 2) (Nat.le_of_ble_eq_true rfl)
  rw [lg_entry_eq]
  generalize (lg_sl ([.ref h0, .int i]) ++ List.replicate (2 - (lg_sl ([.ref h0, .int i])).length) Slot.unset).toArray = ls at hl ⊢
  have hl : lv_has ls 2 [(0, .ref h0), (1, .int i)] := hl
  refine lv_aload_n hx hb d_B_letter_0 rfl (lv_at hl 0 rfl) ?_
  refine va_get (D := D) (ci := 1) (v := .int (nI Lx.length)) (C := "BuildDrawer") (T := TB) (N := 14) hx hb hw inB hown hK hP 0 rfl rfl 13 (by decide) (hw _ k_69) (fun _ h9 => h9) rfl d_B_letter_1 ?_
  refine lv_iconst (v := (-1)) hx hb d_B_letter_4 (by decide) ?_
  refine lv_icmp_ne (tgt := 12) hx hb d_B_letter_5 (by decide) (fun r_5 => ?_) (fun r_5 => ?_)
  · have c_5 := r_5
    refine lv_iload_n hx hb d_B_letter_12 rfl (lv_at hl 1 rfl) ?_
    refine lv_if_lt (tgt := 31) hx hb d_B_letter_13 (by decide) (fun r_13 => ?_) (fun r_13 => ?_)
    · have c_13 := r_13
      refine lv_iconst (v := (-1)) hx hb d_B_letter_31 (by decide) ?_
      exact cx_iret hx hb hr hlocks hK hP hD hS d_B_letter_32 (by rw [bd_ch, if_pos r_13]) (rfl)
    · have c_13 := r_13
      refine lv_iload_n hx hb d_B_letter_16 rfl (lv_at hl 1 rfl) ?_
      refine lv_aload_n hx hb d_B_letter_17 rfl (lv_at hl 0 rfl) ?_
      refine va_get (D := D) (ci := 1) (v := .int (nI Lx.length)) (C := "BuildDrawer") (T := TB) (N := 14) hx hb hw inB hown hK hP 0 rfl rfl 13 (by decide) (hw _ k_69) (fun _ h9 => h9) rfl d_B_letter_18 ?_
      refine lv_icmp_ge (tgt := 31) hx hb d_B_letter_21 (by decide) (fun r_21 => ?_) (fun r_21 => ?_)
      · have c_21 := r_21
        refine lv_iconst (v := (-1)) hx hb d_B_letter_31 (by decide) ?_
        exact cx_iret hx hb hr hlocks hK hP hD hS d_B_letter_32 (by rw [bd_ch, if_neg r_13, if_pos r_21]) (rfl)
      · have c_21 := r_21
        obtain ⟨j9, hj9, rfl⟩ : ∃ j, j < Lx.length ∧ i = nI j := by
          rcases pk_ix i (n := Lx.length) (by omega) with h | h | h
          · exact absurd h r_13
          · exact absurd h r_21
          · exact h
        refine lv_iload_n hx hb d_B_letter_24 rfl (lv_at hl 1 rfl) ?_
        refine lv_sipush (v := 992) hx hb d_B_letter_25 (by decide) ?_
        refine lv_icmp_lt (tgt := 33) hx hb d_B_letter_28 (by decide) (fun r_28 => ?_) (fun r_28 => ?_)
        · have c_28 := (nI_ltI (a := j9) (b := 992) (by omega) (by omega)).mp r_28
          refine lv_aload_n hx hb d_B_letter_33 rfl (lv_at hl 0 rfl) ?_
          refine va_get (D := D) (ci := 1) (v := .ref aT) (C := "BuildDrawer") (T := TB) (N := 14) hx hb hw inB hown hK hP 0 rfl rfl 12 (by decide) (hw _ k_68) (fun _ h9 => h9) rfl d_B_letter_34 ?_
          refine lv_iload_n hx hb d_B_letter_37 rfl (lv_at hl 1 rfl) ?_
          refine va_cald hx hb hK hP 1 2 rfl rfl (vp_in_nI (n := j9) (by omega) (by omega)) d_B_letter_38 ?_
          refine cx_ti (y := fT j9) (by rw [nI_clamp (by omega)]) ?_
          exact cx_iret hx hb hr hlocks hK hP hD hS d_B_letter_39 (by rw [bd_ch, if_neg r_13, if_neg r_21, nI_clamp (by omega)]; exact hT j9 hj9) (rfl)
        · have c_28 := mt (nI_ltI (a := j9) (b := 992) (by omega) (by omega)).mpr r_28
          omega
  · have c_5 := r_5
    exact absurd r_5 (bd_nm1 (by omega))
