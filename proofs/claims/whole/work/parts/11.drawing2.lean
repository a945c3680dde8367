def bd_like (so fa fb ne mk so2 fa2 fb2 ne2 mk2 : Int32) : Int32 := if so = so2 then if fa = fa2 then if fb = fb2 then if ne = ne2 then if mk = mk2 then 1 else 0 else 0 else 0 else 0 else 0
set_option maxHeartbeats 4000000 in
set_option maxRecDepth 100000 in
theorem c_D_begin (l : Launch) (G : cx_G) (D : va_G) (K : cx_KT) (sz : Nat) (h0 : Nat) (w : Int64) (sk : Int32) (pb : Int32) (nu : Int32) (so : Int32) (fa : Int32) (fb : Int32) (ne : Int32) (mk : Int32) (seed : Int64) (kk : Nat) (size : Int32) (hkk : kk < 8) : Met l y_D_begin w_D_begin ({ frames := 1, cells := 0, slots := 0, locals := 22 }) (cx_Pc G D (cx_ty K) [(h0, .inr (0, [.long w, .int sk, .int pb, .int nu, .int so, .int fa, .int fb, .int ne, .int mk]))] sz [.ref h0, .long seed, .int (nI kk), .int size]) (cx_Qv D (cx_ty K) [(h0, .inr (0, [.long (bd_wb seed (nI kk) size), .int (bd_sk kk), .int (bd_pb seed (nI kk) size), .int (-1), .int so, .int fa, .int fb, .int ne, .int mk]))] (va_A [(h0, .inr (0, [.long w, .int sk, .int pb, .int nu, .int so, .int fa, .int fb, .int ne, .int mk]))] sz)) 0 0 (va_A [(h0, .inr (0, [.long w, .int sk, .int pb, .int nu, .int so, .int fa, .int fb, .int ne, .int mk]))] sz) := by
  refine Met.ofW (cc := prog_2_method_2_code) (maxL := 5) (ret := none) (by decide) rfl ?_
  intro p e s m args below meth c s₁ B hml hv
  obtain ⟨rfl, hsz, hP, hK, hD0, hE⟩ := hv
  have hx := B.exec
  have hb := B.bytes
  have hr := B.returns
  have hts := atoms_spec (ws := w_D_begin) B.pre
  have hw : ∀ w ∈ cw, w.before _ s = true := fun w h => hts w (List.mem_cons_of_mem _ h)
  have hown : s.vm.findClass "BuildDrawer$Drawing" = some m.cls := findClass_of_methodNamed B.named
  have hlocks := B.notSynchronized
  subst hsz
  have hD := hD0.self (sz := s.heap.size)
  generalize hAe : va_A [(h0, .inr (0, [.long w, .int sk, .int pb, .int nu, .int so, .int fa, .int fb, .int ne, .int mk]))] s.heap.size = A at hD hE ⊢
  have hA : ∀ q : Nat, s.heap.size ≤ q → A q := fun q h => by rw [← hAe]; exact Or.inr h
  have hS : va_S A s.heap s.heap [] := va_S.rf
  have hl := lv_entry ([.ref h0, .long seed, .int (nI kk), .int size]) (n := 5) (Nat.le_of_ble_eq_true rfl)
  rw [lg_entry_eq]
  generalize (lg_sl ([.ref h0, .long seed, .int (nI kk), .int size]) ++ List.replicate (5 - (lg_sl ([.ref h0, .long seed, .int (nI kk), .int size])).length) Slot.unset).toArray = ls at hl ⊢
  have hl : lv_has ls 5 [(0, .ref h0), (1, .long seed), (3, .int (nI kk)), (4, .int size)] := hl
  refine lv_aload_n hx hb d_D_begin_0 rfl (lv_at hl 0 rfl) ?_
  refine lv_lload_n hx hb d_D_begin_1 rfl (lv_at hl 1 rfl) ?_
  refine lv_iload_n hx hb d_D_begin_2 rfl (lv_at hl 2 rfl) ?_
  refine lv_i2l (v := (nI kk).toInt64) hx hb d_D_begin_3 (rfl) ?_
  refine lv_lxor hx hb d_D_begin_4 ?_
  refine lv_ldc2 (v := 2862933555777941757) hx hb hown (hw _ k_113) d_D_begin_5 ?_
  refine lv_lmul hx hb d_D_begin_8 ?_
  refine lv_iload hx hb d_D_begin_9 (lv_at hl 3 rfl) ?_
  refine lv_i2l (v := size.toInt64) hx hb d_D_begin_11 (rfl) ?_
  refine lv_ladd hx hb d_D_begin_12 ?_
  refine cx_tl (y := bd_w0 seed (nI kk) size) (rfl) ?_
  refine va_put (D := D) (ci := 0) (v := .long (bd_w0 seed (nI kk) size)) (ty := .long) (C := "BuildDrawer$Drawing") (T := TD) (N := 9) hx hb hw inD tyD tyD_ok nmD hown hK hP hD hS 0 rfl rfl 0 (by decide) (hw _ k_23) (fun _ h9 => h9) rfl (by decide +kernel) rfl rfl (Nat.le_of_ble_eq_true rfl) d_D_begin_13 (fun H locs hP hD hS => ?_)
  have hP : va_P D vwCl [(h0, .inr (0, [.long (bd_w0 seed (nI kk) size), .int sk, .int pb, .int nu, .int so, .int fa, .int fb, .int ne, .int mk]))] H := hP
  have hD : va_D A [(h0, .inr (0, [.long (bd_w0 seed (nI kk) size), .int sk, .int pb, .int nu, .int so, .int fa, .int fb, .int ne, .int mk]))] := hD
  refine lv_aload_n hx hb d_D_begin_16 rfl (lv_at hl 0 rfl) ?_
  refine lv_iload_n hx hb d_D_begin_17 rfl (lv_at hl 2 rfl) ?_
  refine lv_if_lt (tgt := 37) hx hb d_D_begin_18 (by decide) (fun r_18 => ?_) (fun r_18 => ?_)
  · have c_18 := (nI_ltI (a := kk) (b := 0) (by omega) (by omega)).mp r_18
    omega
  · have c_18 := mt (nI_ltI (a := kk) (b := 0) (by omega) (by omega)).mpr r_18
    refine lv_iload_n hx hb d_D_begin_21 rfl (lv_at hl 2 rfl) ?_
    refine va_getsN hx hb hE.2.1.1 hS hown (hE.nw kn_114) (fun _ h9 => h9) d_D_begin_22 ?_
    refine va_tlen (v := 8) hx hb hE.2.1.2 hS rfl d_D_begin_25 ?_
    refine lv_icmp_ge (tgt := 37) hx hb d_D_begin_26 (by decide) (fun r_26 => ?_) (fun r_26 => ?_)
    · have c_26 := (nI_leI (a := 8) (b := kk) (by omega) (by omega)).mp r_26
      omega
    · have c_26 := mt (nI_leI (a := 8) (b := kk) (by omega) (by omega)).mpr r_26
      refine va_getsN hx hb hE.2.1.1 hS hown (hE.nw kn_114) (fun _ h9 => h9) d_D_begin_29 ?_
      refine lv_iload_n hx hb d_D_begin_32 rfl (lv_at hl 2 rfl) ?_
      refine va_ti (v := .int (bd_sk kk)) hx hb hE.2.1.2 hS (vp_in_nI (n := kk) (by omega) (by omega)) (by rw [nI_clamp (by omega)]) d_D_begin_33 ?_
      refine lv_goto (tgt := 38) hx hb d_D_begin_34 (by decide) ?_
      refine va_put (D := D) (ci := 0) (v := .int (bd_sk kk)) (ty := .int) (C := "BuildDrawer$Drawing") (T := TD) (N := 9) hx hb hw inD tyD tyD_ok nmD hown hK hP hD hS 0 rfl rfl 1 (by decide) (hw _ k_24) (fun _ h9 => h9) rfl (by decide +kernel) rfl rfl (Nat.le_of_ble_eq_true rfl) d_D_begin_38 (fun H locs hP hD hS => ?_)
      have hP : va_P D vwCl [(h0, .inr (0, [.long (bd_w0 seed (nI kk) size), .int (bd_sk kk), .int pb, .int nu, .int so, .int fa, .int fb, .int ne, .int mk]))] H := hP
      have hD : va_D A [(h0, .inr (0, [.long (bd_w0 seed (nI kk) size), .int (bd_sk kk), .int pb, .int nu, .int so, .int fa, .int fb, .int ne, .int mk]))] := hD
      refine lv_aload_n hx hb d_D_begin_41 rfl (lv_at hl 0 rfl) ?_
      refine lv_iload_n hx hb d_D_begin_42 rfl (lv_at hl 2 rfl) ?_
      refine lv_iconst (v := 1) hx hb d_D_begin_43 (by decide) ?_
      refine lv_icmp_ne (tgt := 59) hx hb d_D_begin_44 (by decide) (fun r_44 => ?_) (fun r_44 => ?_)
      · have c_44 := r_44
        refine lv_iconst (v := 0) hx hb d_D_begin_59 (by decide) ?_
        refine va_put (D := D) (ci := 0) (v := .int 0) (ty := .int) (C := "BuildDrawer$Drawing") (T := TD) (N := 9) hx hb hw inD tyD tyD_ok nmD hown hK hP hD hS 0 rfl rfl 2 (by decide) (hw _ k_25) (fun _ h9 => h9) rfl (by decide +kernel) rfl rfl (Nat.le_of_ble_eq_true rfl) d_D_begin_60 (fun H locs hP hD hS => ?_)
        have hP : va_P D vwCl [(h0, .inr (0, [.long (bd_w0 seed (nI kk) size), .int (bd_sk kk), .int 0, .int nu, .int so, .int fa, .int fb, .int ne, .int mk]))] H := hP
        have hD : va_D A [(h0, .inr (0, [.long (bd_w0 seed (nI kk) size), .int (bd_sk kk), .int 0, .int nu, .int so, .int fa, .int fb, .int ne, .int mk]))] := hD
        refine lv_aload_n hx hb d_D_begin_63 rfl (lv_at hl 0 rfl) ?_
        refine lv_iconst (v := (-1)) hx hb d_D_begin_64 (by decide) ?_
        refine va_put (D := D) (ci := 0) (v := .int (-1)) (ty := .int) (C := "BuildDrawer$Drawing") (T := TD) (N := 9) hx hb hw inD tyD tyD_ok nmD hown hK hP hD hS 0 rfl rfl 3 (by decide) (hw _ k_26) (fun _ h9 => h9) rfl (by decide +kernel) rfl rfl (Nat.le_of_ble_eq_true rfl) d_D_begin_65 (fun H locs hP hD hS => ?_)
        have hP : va_P D vwCl [(h0, .inr (0, [.long (bd_w0 seed (nI kk) size), .int (bd_sk kk), .int 0, .int (-1), .int so, .int fa, .int fb, .int ne, .int mk]))] H := hP
        have hD : va_D A [(h0, .inr (0, [.long (bd_w0 seed (nI kk) size), .int (bd_sk kk), .int 0, .int (-1), .int so, .int fa, .int fb, .int ne, .int mk]))] := hD
        exact cx_vret hx hb hr hlocks hK hP hD hS d_D_begin_68 (by simp only [bd_wb, bd_pb, if_neg r_44])
      · have c_44 := r_44
        refine lv_aload_n hx hb d_D_begin_47 rfl (lv_at hl 0 rfl) ?_
        refine lv_bipush (v := 16) hx hb d_D_begin_48 (by decide) ?_
        refine cx_ci (wr := []) (wN := [(h0, .inr (0, [.long (bd_w (bd_w0 seed (nI kk) size)), .int (bd_sk kk), .int pb, .int nu, .int so, .int fa, .int fb, .int ne, .int mk]))]) (va_runV (As := [.int 16]) (rest := [.ref h0]) ⟨hx, hb, hml, hown, hw⟩ (c_D_chance l G D K H.size h0 (bd_w0 seed (nI kk) size) (bd_sk kk) pb nu so fa fb ne mk 16) (cwV 1 hw (cx_gV k_116 k_118 ks_D_chance k_2 k_119) rfl rfl rfl (by decide +kernel) ⟨Nat.le_of_ble_eq_true rfl, Nat.le_of_ble_eq_true rfl⟩) (cx_preV (q0 := 0) (ci := 0) hK hP hD hS hA hE rfl rfl [0] rfl rfl (by decide)) rfl rfl hl.1 rfl (lv_room (Nat.le_of_ble_eq_true rfl)) d_D_begin_50 ⟨Nat.le_of_ble_eq_true rfl, Nat.le_of_ble_eq_true rfl⟩) hP hD hS hA [0] [] rfl rfl (by decide) (by decide) [0] rfl rfl (by decide) (fun H locs hP hD hS => ?_)
        refine cx_ci (wr := [(h0, .inr (0, [.long (bd_w (bd_w0 seed (nI kk) size)), .int (bd_sk kk), .int pb, .int nu, .int so, .int fa, .int fb, .int ne, .int mk]))]) (wN := [(h0, .inr (0, [.long (bd_w (bd_w0 seed (nI kk) size)), .int (bd_sk kk), .int pb, .int nu, .int so, .int fa, .int fb, .int ne, .int mk]))]) (va_runS (As := [.int (bd_c (bd_w0 seed (nI kk) size) 16)]) (rest := [.ref h0]) ⟨hx, hb, hml, hown, hw⟩ (c_D_bitOrNone l G D K H.size (bd_c (bd_w0 seed (nI kk) size) 16)) (va_cwS 1 hw (cx_gS k_122 k_123 k_2 k_124) rfl rfl rfl (by decide +kernel) ⟨Nat.le_of_ble_eq_true rfl, Nat.le_of_ble_eq_true rfl⟩) (cx_pre hK hP hD hS hA hE [] rfl rfl (by decide)) rfl rfl hl.1 rfl (lv_room (Nat.le_of_ble_eq_true rfl)) d_D_begin_53 ⟨Nat.le_of_ble_eq_true rfl, Nat.le_of_ble_eq_true rfl⟩) hP hD hS hA [] [0] rfl rfl (by decide) (by decide) [0] rfl rfl (by decide) (fun H locs hP hD hS => ?_)
        refine lv_goto (tgt := 60) hx hb d_D_begin_56 (by decide) ?_
        refine va_put (D := D) (ci := 0) (v := .int (bd_bit (bd_c (bd_w0 seed (nI kk) size) 16))) (ty := .int) (C := "BuildDrawer$Drawing") (T := TD) (N := 9) hx hb hw inD tyD tyD_ok nmD hown hK hP hD hS 0 rfl rfl 2 (by decide) (hw _ k_25) (fun _ h9 => h9) rfl (by decide +kernel) rfl rfl (Nat.le_of_ble_eq_true rfl) d_D_begin_60 (fun H locs hP hD hS => ?_)
        have hP : va_P D vwCl [(h0, .inr (0, [.long (bd_w (bd_w0 seed (nI kk) size)), .int (bd_sk kk), .int (bd_bit (bd_c (bd_w0 seed (nI kk) size) 16)), .int nu, .int so, .int fa, .int fb, .int ne, .int mk]))] H := hP
        have hD : va_D A [(h0, .inr (0, [.long (bd_w (bd_w0 seed (nI kk) size)), .int (bd_sk kk), .int (bd_bit (bd_c (bd_w0 seed (nI kk) size) 16)), .int nu, .int so, .int fa, .int fb, .int ne, .int mk]))] := hD
        refine lv_aload_n hx hb d_D_begin_63 rfl (lv_at hl 0 rfl) ?_
        refine lv_iconst (v := (-1)) hx hb d_D_begin_64 (by decide) ?_
        refine va_put (D := D) (ci := 0) (v := .int (-1)) (ty := .int) (C := "BuildDrawer$Drawing") (T := TD) (N := 9) hx hb hw inD tyD tyD_ok nmD hown hK hP hD hS 0 rfl rfl 3 (by decide) (hw _ k_26) (fun _ h9 => h9) rfl (by decide +kernel) rfl rfl (Nat.le_of_ble_eq_true rfl) d_D_begin_65 (fun H locs hP hD hS => ?_)
        have hP : va_P D vwCl [(h0, .inr (0, [.long (bd_w (bd_w0 seed (nI kk) size)), .int (bd_sk kk), .int (bd_bit (bd_c (bd_w0 seed (nI kk) size) 16)), .int (-1), .int so, .int fa, .int fb, .int ne, .int mk]))] H := hP
        have hD : va_D A [(h0, .inr (0, [.long (bd_w (bd_w0 seed (nI kk) size)), .int (bd_sk kk), .int (bd_bit (bd_c (bd_w0 seed (nI kk) size) 16)), .int (-1), .int so, .int fa, .int fb, .int ne, .int mk]))] := hD
        exact cx_vret hx hb hr hlocks hK hP hD hS d_D_begin_68 (by simp only [bd_wb, bd_pb, if_pos r_44])
set_option maxHeartbeats 4000000 in
set_option maxRecDepth 100000 in
theorem c_D_isAtTheLikeOf (l : Launch) (G : cx_G) (D : va_G) (K : cx_KT) (sz : Nat) (h0 : Nat) (h1 : Nat) (w : Int64) (sk : Int32) (pb : Int32) (nu : Int32) (so : Int32) (fa : Int32) (fb : Int32) (ne : Int32) (mk : Int32) (w2 : Int64) (sk2 : Int32) (pb2 : Int32) (nu2 : Int32) (so2 : Int32) (fa2 : Int32) (fb2 : Int32) (ne2 : Int32) (mk2 : Int32)  : Met l y_D_isAtTheLikeOf w_D_isAtTheLikeOf ({ frames := 0, cells := 0, slots := 0, locals := 0 }) (cx_Pc G D (cx_ty K) [(h0, .inr (0, [.long w, .int sk, .int pb, .int nu, .int so, .int fa, .int fb, .int ne, .int mk])), (h1, .inr (0, [.long w2, .int sk2, .int pb2, .int nu2, .int so2, .int fa2, .int fb2, .int ne2, .int mk2]))] sz [.ref h0, .ref h1]) (cx_Qi (bd_like so fa fb ne mk so2 fa2 fb2 ne2 mk2) D (cx_ty K) [(h0, .inr (0, [.long w, .int sk, .int pb, .int nu, .int so, .int fa, .int fb, .int ne, .int mk])), (h1, .inr (0, [.long w2, .int sk2, .int pb2, .int nu2, .int so2, .int fa2, .int fb2, .int ne2, .int mk2]))] (va_A [(h0, .inr (0, [.long w, .int sk, .int pb, .int nu, .int so, .int fa, .int fb, .int ne, .int mk])), (h1, .inr (0, [.long w2, .int sk2, .int pb2, .int nu2, .int so2, .int fa2, .int fb2, .int ne2, .int mk2]))] sz)) 0 0 (va_A [(h0, .inr (0, [.long w, .int sk, .int pb, .int nu, .int so, .int fa, .int fb, .int ne, .int mk])), (h1, .inr (0, [.long w2, .int sk2, .int pb2, .int nu2, .int so2, .int fa2, .int fb2, .int ne2, .int mk2]))] sz) := by
  refine Met.ofW (cc := prog_2_method_4_code) (maxL := 2) (ret := (some .boolean)) (by decide) rfl ?_
  intro p e s m args below meth c s₁ B hml hv
  obtain ⟨rfl, hsz, hP, hK, hD0, hE⟩ := hv
  have hx := B.exec
  have hb := B.bytes
  have hr := B.returns
  have hts := atoms_spec (ws := w_D_isAtTheLikeOf) B.pre
  have hw : ∀ w ∈ cw, w.before _ s = true := fun w h => hts w (List.mem_cons_of_mem _ h)
  have hown : s.vm.findClass "BuildDrawer$Drawing" = some m.cls := findClass_of_methodNamed B.named
  have hlocks := B.notSynchronized
  subst hsz
  have hD := hD0.self (sz := s.heap.size)
  generalize hAe : va_A [(h0, .inr (0, [.long w, .int sk, .int pb, .int nu, .int so, .int fa, .int fb, .int ne, .int mk])), (h1, .inr (0, [.long w2, .int sk2, .int pb2, .int nu2, .int so2, .int fa2, .int fb2, .int ne2, .int mk2]))] s.heap.size = A at hD hE ⊢
  have hA : ∀ q : Nat, s.heap.size ≤ q → A q := fun q h => by rw [← hAe]; exact Or.inr h
  have hS : va_S A s.heap s.heap [] := va_S.rf
  have hl := lv_entry ([.ref h0, .ref h1]) (n := 2) (Nat.le_of_ble_eq_true rfl)
  rw [lg_entry_eq]
  generalize (lg_sl ([.ref h0, .ref h1]) ++ List.replicate (2 - (lg_sl ([.ref h0, .ref h1])).length) Slot.unset).toArray = ls at hl ⊢
  have hl : lv_has ls 2 [(0, .ref h0), (1, .ref h1)] := hl
  refine lv_aload_n hx hb d_D_isAtTheLikeOf_0 rfl (lv_at hl 1 rfl) ?_
  refine lv_ifnull hx hb d_D_isAtTheLikeOf_1 ?_
  refine lv_aload_n hx hb d_D_isAtTheLikeOf_4 rfl (lv_at hl 0 rfl) ?_
  refine va_get (D := D) (ci := 0) (v := .int so) (C := "BuildDrawer$Drawing") (T := TD) (N := 9) hx hb hw inD hown hK hP 0 rfl rfl 4 (by decide) (hw _ k_27) (fun _ h9 => h9) rfl d_D_isAtTheLikeOf_5 ?_
  refine lv_aload_n hx hb d_D_isAtTheLikeOf_8 rfl (lv_at hl 1 rfl) ?_
  refine va_get (D := D) (ci := 0) (v := .int so2) (C := "BuildDrawer$Drawing") (T := TD) (N := 9) hx hb hw inD hown hK hP 1 rfl rfl 4 (by decide) (hw _ k_27) (fun _ h9 => h9) rfl d_D_isAtTheLikeOf_9 ?_
  refine lv_icmp_ne (tgt := 63) hx hb d_D_isAtTheLikeOf_12 (by decide) (fun r_12 => ?_) (fun r_12 => ?_)
  · have c_12 := r_12
    refine lv_iconst (v := 0) hx hb d_D_isAtTheLikeOf_63 (by decide) ?_
    exact cx_zret hx hb hr hlocks hK hP hD hS d_D_isAtTheLikeOf_64 (rfl) (by simp only [bd_like, if_neg r_12]) (rfl)
  · have c_12 := r_12
    refine lv_aload_n hx hb d_D_isAtTheLikeOf_15 rfl (lv_at hl 0 rfl) ?_
    refine va_get (D := D) (ci := 0) (v := .int fa) (C := "BuildDrawer$Drawing") (T := TD) (N := 9) hx hb hw inD hown hK hP 0 rfl rfl 5 (by decide) (hw _ k_29) (fun _ h9 => h9) rfl d_D_isAtTheLikeOf_16 ?_
    refine lv_aload_n hx hb d_D_isAtTheLikeOf_19 rfl (lv_at hl 1 rfl) ?_
    refine va_get (D := D) (ci := 0) (v := .int fa2) (C := "BuildDrawer$Drawing") (T := TD) (N := 9) hx hb hw inD hown hK hP 1 rfl rfl 5 (by decide) (hw _ k_29) (fun _ h9 => h9) rfl d_D_isAtTheLikeOf_20 ?_
    refine lv_icmp_ne (tgt := 63) hx hb d_D_isAtTheLikeOf_23 (by decide) (fun r_23 => ?_) (fun r_23 => ?_)
    · have c_23 := r_23
      refine lv_iconst (v := 0) hx hb d_D_isAtTheLikeOf_63 (by decide) ?_
      exact cx_zret hx hb hr hlocks hK hP hD hS d_D_isAtTheLikeOf_64 (rfl) (by simp only [bd_like, if_pos r_12, if_neg r_23]) (rfl)
    · have c_23 := r_23
      refine lv_aload_n hx hb d_D_isAtTheLikeOf_26 rfl (lv_at hl 0 rfl) ?_
      refine va_get (D := D) (ci := 0) (v := .int fb) (C := "BuildDrawer$Drawing") (T := TD) (N := 9) hx hb hw inD hown hK hP 0 rfl rfl 6 (by decide) (hw _ k_31) (fun _ h9 => h9) rfl d_D_isAtTheLikeOf_27 ?_
      refine lv_aload_n hx hb d_D_isAtTheLikeOf_30 rfl (lv_at hl 1 rfl) ?_
      refine va_get (D := D) (ci := 0) (v := .int fb2) (C := "BuildDrawer$Drawing") (T := TD) (N := 9) hx hb hw inD hown hK hP 1 rfl rfl 6 (by decide) (hw _ k_31) (fun _ h9 => h9) rfl d_D_isAtTheLikeOf_31 ?_
      refine lv_icmp_ne (tgt := 63) hx hb d_D_isAtTheLikeOf_34 (by decide) (fun r_34 => ?_) (fun r_34 => ?_)
      · have c_34 := r_34
        refine lv_iconst (v := 0) hx hb d_D_isAtTheLikeOf_63 (by decide) ?_
        exact cx_zret hx hb hr hlocks hK hP hD hS d_D_isAtTheLikeOf_64 (rfl) (by simp only [bd_like, if_pos r_12, if_pos r_23, if_neg r_34]) (rfl)
      · have c_34 := r_34
        refine lv_aload_n hx hb d_D_isAtTheLikeOf_37 rfl (lv_at hl 0 rfl) ?_
        refine va_get (D := D) (ci := 0) (v := .int ne) (C := "BuildDrawer$Drawing") (T := TD) (N := 9) hx hb hw inD hown hK hP 0 rfl rfl 7 (by decide) (hw _ k_33) (fun _ h9 => h9) rfl d_D_isAtTheLikeOf_38 ?_
        refine lv_aload_n hx hb d_D_isAtTheLikeOf_41 rfl (lv_at hl 1 rfl) ?_
        refine va_get (D := D) (ci := 0) (v := .int ne2) (C := "BuildDrawer$Drawing") (T := TD) (N := 9) hx hb hw inD hown hK hP 1 rfl rfl 7 (by decide) (hw _ k_33) (fun _ h9 => h9) rfl d_D_isAtTheLikeOf_42 ?_
        refine lv_icmp_ne (tgt := 63) hx hb d_D_isAtTheLikeOf_45 (by decide) (fun r_45 => ?_) (fun r_45 => ?_)
        · have c_45 := r_45
          refine lv_iconst (v := 0) hx hb d_D_isAtTheLikeOf_63 (by decide) ?_
          exact cx_zret hx hb hr hlocks hK hP hD hS d_D_isAtTheLikeOf_64 (rfl) (by simp only [bd_like, if_pos r_12, if_pos r_23, if_pos r_34, if_neg r_45]) (rfl)
        · have c_45 := r_45
          refine lv_aload_n hx hb d_D_isAtTheLikeOf_48 rfl (lv_at hl 0 rfl) ?_
          refine va_get (D := D) (ci := 0) (v := .int mk) (C := "BuildDrawer$Drawing") (T := TD) (N := 9) hx hb hw inD hown hK hP 0 rfl rfl 8 (by decide) (hw _ k_35) (fun _ h9 => h9) rfl d_D_isAtTheLikeOf_49 ?_
          refine lv_aload_n hx hb d_D_isAtTheLikeOf_52 rfl (lv_at hl 1 rfl) ?_
          refine va_get (D := D) (ci := 0) (v := .int mk2) (C := "BuildDrawer$Drawing") (T := TD) (N := 9) hx hb hw inD hown hK hP 1 rfl rfl 8 (by decide) (hw _ k_35) (fun _ h9 => h9) rfl d_D_isAtTheLikeOf_53 ?_
          refine lv_icmp_ne (tgt := 63) hx hb d_D_isAtTheLikeOf_56 (by decide) (fun r_56 => ?_) (fun r_56 => ?_)
          · have c_56 := r_56
            refine lv_iconst (v := 0) hx hb d_D_isAtTheLikeOf_63 (by decide) ?_
            exact cx_zret hx hb hr hlocks hK hP hD hS d_D_isAtTheLikeOf_64 (rfl) (by simp only [bd_like, if_pos r_12, if_pos r_23, if_pos r_34, if_pos r_45, if_neg r_56]) (rfl)
          · have c_56 := r_56
            refine lv_iconst (v := 1) hx hb d_D_isAtTheLikeOf_59 (by decide) ?_
            refine lv_goto (tgt := 64) hx hb d_D_isAtTheLikeOf_60 (by decide) ?_
            exact cx_zret hx hb hr hlocks hK hP hD hS d_D_isAtTheLikeOf_64 (rfl) (by simp only [bd_like, if_pos r_12, if_pos r_23, if_pos r_34, if_pos r_45, if_pos r_56]) (rfl)
set_option maxHeartbeats 4000000 in
set_option maxRecDepth 100000 in
theorem c_D_init (l : Launch) (G : cx_G) (D : va_G) (K : cx_KT) (sz : Nat) (h0 : Nat) (w : Int64) (sk : Int32) (pb : Int32) (nu : Int32) (so : Int32) (fa : Int32) (fb : Int32) (ne : Int32) (mk : Int32)  : Met l y_D_init w_D_init ({ frames := 1, cells := 0, slots := 0, locals := 20 }) (cx_Pc G D (cx_ty K) [(h0, .inr (0, [.long w, .int sk, .int pb, .int nu, .int so, .int fa, .int fb, .int ne, .int mk]))] sz [.ref h0]) (cx_Qv D (cx_ty K) [(h0, .inr (0, [.long 0, .int 0, .int 0, .int (-1), .int 0, .int 0, .int 0, .int (-1), .int 0]))] (va_A [(h0, .inr (0, [.long w, .int sk, .int pb, .int nu, .int so, .int fa, .int fb, .int ne, .int mk]))] sz)) 0 0 (va_A [(h0, .inr (0, [.long w, .int sk, .int pb, .int nu, .int so, .int fa, .int fb, .int ne, .int mk]))] sz) := by
  refine Met.ofW (cc := prog_2_method_1_code) (maxL := 1) (ret := none) (by decide) rfl ?_
  intro p e s m args below meth c s₁ B hml hv
  obtain ⟨rfl, hsz, hP, hK, hD0, hE⟩ := hv
  have hx := B.exec
  have hb := B.bytes
  have hr := B.returns
  have hts := atoms_spec (ws := w_D_init) B.pre
  have hw : ∀ w ∈ cw, w.before _ s = true := fun w h => hts w (List.mem_cons_of_mem _ h)
  have hown : s.vm.findClass "BuildDrawer$Drawing" = some m.cls := findClass_of_methodNamed B.named
  have hlocks := B.notSynchronized
  have hin : meth.name = "<init>" := (name_of_methodNamed B.named B.method).1
  subst hsz
  have hD := hD0.self (sz := s.heap.size)
  generalize hAe : va_A [(h0, .inr (0, [.long w, .int sk, .int pb, .int nu, .int so, .int fa, .int fb, .int ne, .int mk]))] s.heap.size = A at hD hE ⊢
  have hA : ∀ q : Nat, s.heap.size ≤ q → A q := fun q h => by rw [← hAe]; exact Or.inr h
  have hS : va_S A s.heap s.heap [] := va_S.rf
  have hl := lv_entry ([.ref h0]) (n := 1) (Nat.le_of_ble_eq_true rfl)
  rw [lg_entry_eq]
  generalize (lg_sl ([.ref h0]) ++ List.replicate (1 - (lg_sl ([.ref h0])).length) Slot.unset).toArray = ls at hl ⊢
  have hl : lv_has ls 1 [(0, .ref h0)] := hl
  refine lv_aload_n hx hb d_D_init_0 rfl (lv_at hl 0 rfl) ?_
  refine W.objInit hx hb hown (hw _ k_22) (hw _ k_15) (hw _ k_16) rfl (by rw [hml]; exact hl.1) rfl d_D_init_1 (Nat.le_of_ble_eq_true rfl) (Nat.le_of_ble_eq_true rfl) ?_
  refine W.eq (g2 := F0 m 4 ls []) rfl ?_
  refine lv_aload_n hx hb d_D_init_4 rfl (lv_at hl 0 rfl) ?_
  refine lv_lconst (v := 0) hx hb d_D_init_5 (by decide) ?_
  refine va_put (D := D) (ci := 0) (v := .long 0) (ty := .long) (C := "BuildDrawer$Drawing") (T := TD) (N := 9) hx hb hw inD tyD tyD_ok nmD hown hK hP hD hS 0 rfl rfl 0 (by decide) (hw _ k_23) (fun _ h9 => h9) rfl (by decide +kernel) rfl rfl (Nat.le_of_ble_eq_true rfl) d_D_init_6 (fun H locs hP hD hS => ?_)
  have hP : va_P D vwCl [(h0, .inr (0, [.long 0, .int sk, .int pb, .int nu, .int so, .int fa, .int fb, .int ne, .int mk]))] H := hP
  have hD : va_D A [(h0, .inr (0, [.long 0, .int sk, .int pb, .int nu, .int so, .int fa, .int fb, .int ne, .int mk]))] := hD
  refine lv_aload_n hx hb d_D_init_9 rfl (lv_at hl 0 rfl) ?_
  refine lv_iconst (v := 0) hx hb d_D_init_10 (by decide) ?_
  refine va_put (D := D) (ci := 0) (v := .int 0) (ty := .int) (C := "BuildDrawer$Drawing") (T := TD) (N := 9) hx hb hw inD tyD tyD_ok nmD hown hK hP hD hS 0 rfl rfl 1 (by decide) (hw _ k_24) (fun _ h9 => h9) rfl (by decide +kernel) rfl rfl (Nat.le_of_ble_eq_true rfl) d_D_init_11 (fun H locs hP hD hS => ?_)
  have hP : va_P D vwCl [(h0, .inr (0, [.long 0, .int 0, .int pb, .int nu, .int so, .int fa, .int fb, .int ne, .int mk]))] H := hP
  have hD : va_D A [(h0, .inr (0, [.long 0, .int 0, .int pb, .int nu, .int so, .int fa, .int fb, .int ne, .int mk]))] := hD
  refine lv_aload_n hx hb d_D_init_14 rfl (lv_at hl 0 rfl) ?_
  refine lv_iconst (v := 0) hx hb d_D_init_15 (by decide) ?_
  refine va_put (D := D) (ci := 0) (v := .int 0) (ty := .int) (C := "BuildDrawer$Drawing") (T := TD) (N := 9) hx hb hw inD tyD tyD_ok nmD hown hK hP hD hS 0 rfl rfl 2 (by decide) (hw _ k_25) (fun _ h9 => h9) rfl (by decide +kernel) rfl rfl (Nat.le_of_ble_eq_true rfl) d_D_init_16 (fun H locs hP hD hS => ?_)
  have hP : va_P D vwCl [(h0, .inr (0, [.long 0, .int 0, .int 0, .int nu, .int so, .int fa, .int fb, .int ne, .int mk]))] H := hP
  have hD : va_D A [(h0, .inr (0, [.long 0, .int 0, .int 0, .int nu, .int so, .int fa, .int fb, .int ne, .int mk]))] := hD
  refine lv_aload_n hx hb d_D_init_19 rfl (lv_at hl 0 rfl) ?_
  refine lv_iconst (v := (-1)) hx hb d_D_init_20 (by decide) ?_
  refine va_put (D := D) (ci := 0) (v := .int (-1)) (ty := .int) (C := "BuildDrawer$Drawing") (T := TD) (N := 9) hx hb hw inD tyD tyD_ok nmD hown hK hP hD hS 0 rfl rfl 3 (by decide) (hw _ k_26) (fun _ h9 => h9) rfl (by decide +kernel) rfl rfl (Nat.le_of_ble_eq_true rfl) d_D_init_21 (fun H locs hP hD hS => ?_)
  have hP : va_P D vwCl [(h0, .inr (0, [.long 0, .int 0, .int 0, .int (-1), .int so, .int fa, .int fb, .int ne, .int mk]))] H := hP
  have hD : va_D A [(h0, .inr (0, [.long 0, .int 0, .int 0, .int (-1), .int so, .int fa, .int fb, .int ne, .int mk]))] := hD
  refine lv_aload_n hx hb d_D_init_24 rfl (lv_at hl 0 rfl) ?_
  refine lv_iconst (v := 0) hx hb d_D_init_25 (by decide) ?_
  refine va_put (D := D) (ci := 0) (v := .int 0) (ty := .int) (C := "BuildDrawer$Drawing") (T := TD) (N := 9) hx hb hw inD tyD tyD_ok nmD hown hK hP hD hS 0 rfl rfl 4 (by decide) (hw _ k_27) (fun _ h9 => h9) rfl (by decide +kernel) rfl rfl (Nat.le_of_ble_eq_true rfl) d_D_init_26 (fun H locs hP hD hS => ?_)
  have hP : va_P D vwCl [(h0, .inr (0, [.long 0, .int 0, .int 0, .int (-1), .int 0, .int fa, .int fb, .int ne, .int mk]))] H := hP
  have hD : va_D A [(h0, .inr (0, [.long 0, .int 0, .int 0, .int (-1), .int 0, .int fa, .int fb, .int ne, .int mk]))] := hD
  refine lv_aload_n hx hb d_D_init_29 rfl (lv_at hl 0 rfl) ?_
  refine lv_iconst (v := 0) hx hb d_D_init_30 (by decide) ?_
  refine va_put (D := D) (ci := 0) (v := .int 0) (ty := .int) (C := "BuildDrawer$Drawing") (T := TD) (N := 9) hx hb hw inD tyD tyD_ok nmD hown hK hP hD hS 0 rfl rfl 5 (by decide) (hw _ k_29) (fun _ h9 => h9) rfl (by decide +kernel) rfl rfl (Nat.le_of_ble_eq_true rfl) d_D_init_31 (fun H locs hP hD hS => ?_)
  have hP : va_P D vwCl [(h0, .inr (0, [.long 0, .int 0, .int 0, .int (-1), .int 0, .int 0, .int fb, .int ne, .int mk]))] H := hP
  have hD : va_D A [(h0, .inr (0, [.long 0, .int 0, .int 0, .int (-1), .int 0, .int 0, .int fb, .int ne, .int mk]))] := hD
  refine lv_aload_n hx hb d_D_init_34 rfl (lv_at hl 0 rfl) ?_
  refine lv_iconst (v := 0) hx hb d_D_init_35 (by decide) ?_
  refine va_put (D := D) (ci := 0) (v := .int 0) (ty := .int) (C := "BuildDrawer$Drawing") (T := TD) (N := 9) hx hb hw inD tyD tyD_ok nmD hown hK hP hD hS 0 rfl rfl 6 (by decide) (hw _ k_31) (fun _ h9 => h9) rfl (by decide +kernel) rfl rfl (Nat.le_of_ble_eq_true rfl) d_D_init_36 (fun H locs hP hD hS => ?_)
  have hP : va_P D vwCl [(h0, .inr (0, [.long 0, .int 0, .int 0, .int (-1), .int 0, .int 0, .int 0, .int ne, .int mk]))] H := hP
  have hD : va_D A [(h0, .inr (0, [.long 0, .int 0, .int 0, .int (-1), .int 0, .int 0, .int 0, .int ne, .int mk]))] := hD
  refine lv_aload_n hx hb d_D_init_39 rfl (lv_at hl 0 rfl) ?_
  refine lv_iconst (v := (-1)) hx hb d_D_init_40 (by decide) ?_
  refine va_put (D := D) (ci := 0) (v := .int (-1)) (ty := .int) (C := "BuildDrawer$Drawing") (T := TD) (N := 9) hx hb hw inD tyD tyD_ok nmD hown hK hP hD hS 0 rfl rfl 7 (by decide) (hw _ k_33) (fun _ h9 => h9) rfl (by decide +kernel) rfl rfl (Nat.le_of_ble_eq_true rfl) d_D_init_41 (fun H locs hP hD hS => ?_)
  have hP : va_P D vwCl [(h0, .inr (0, [.long 0, .int 0, .int 0, .int (-1), .int 0, .int 0, .int 0, .int (-1), .int mk]))] H := hP
  have hD : va_D A [(h0, .inr (0, [.long 0, .int 0, .int 0, .int (-1), .int 0, .int 0, .int 0, .int (-1), .int mk]))] := hD
  refine lv_aload_n hx hb d_D_init_44 rfl (lv_at hl 0 rfl) ?_
  refine lv_iconst (v := 0) hx hb d_D_init_45 (by decide) ?_
  refine va_put (D := D) (ci := 0) (v := .int 0) (ty := .int) (C := "BuildDrawer$Drawing") (T := TD) (N := 9) hx hb hw inD tyD tyD_ok nmD hown hK hP hD hS 0 rfl rfl 8 (by decide) (hw _ k_35) (fun _ h9 => h9) rfl (by decide +kernel) rfl rfl (Nat.le_of_ble_eq_true rfl) d_D_init_46 (fun H locs hP hD hS => ?_)
  have hP : va_P D vwCl [(h0, .inr (0, [.long 0, .int 0, .int 0, .int (-1), .int 0, .int 0, .int 0, .int (-1), .int 0]))] H := hP
  have hD : va_D A [(h0, .inr (0, [.long 0, .int 0, .int 0, .int (-1), .int 0, .int 0, .int 0, .int (-1), .int 0]))] := hD
  exact cx_vret hx hb hr hlocks hK hP hD hS d_D_init_49 (rfl)
