theorem bd_ip_no {cnt : Nat} {i : Int32} (h : bd_ip cnt i = 0) (hc : cnt ≤ 62) (h0 : ¬ i < 0) : ¬ i < nI cnt := by
  intro h1
  rcases pk_ix i (n := cnt) (by omega) with h2 | h2 | ⟨j, hj, rfl⟩
  · exact h0 h2
  · exact absurd h1 (Int32.not_lt.mpr h2)
  · rw [bd_ip_in hc hj] at h; exact absurd h (by decide)
theorem bd_k7 {k : Nat} (h : k < 8) (z0 : ¬ nI k = 0) (z1 : ¬ nI k = 1) (z2 : ¬ nI k = 2) (z3 : ¬ nI k = 3) (z4 : ¬ nI k = 4) (z5 : ¬ nI k = 5) (z6 : ¬ nI k = 6) : k = 7 := by
  rcases (show k = 0 ∨ k = 1 ∨ k = 2 ∨ k = 3 ∨ k = 4 ∨ k = 5 ∨ k = 6 ∨ k = 7 by omega) with rfl | rfl | rfl | rfl | rfl | rfl | rfl | rfl
  · exact absurd rfl z0
  · exact absurd rfl z1
  · exact absurd rfl z2
  · exact absurd rfl z3
  · exact absurd rfl z4
  · exact absurd rfl z5
  · exact absurd rfl z6
  · rfl
theorem bd_keq {k j : Nat} (hk : k < 8) (hj : j < 8) (h : nI k = nI j) : k = j := (nI_eq (by omega) (by omega)).mp h
set_option maxHeartbeats 4000000 in
set_option maxRecDepth 100000 in
theorem c_M_shared (l : Launch) (G : cx_G) (D : va_G) (K : cx_KT) (sz : Nat) (h0 : Nat) (cd : Int32) (seed : Int64) (w : Int64) (cnt : Nat) (vb : Int32) (pl : Int32) (vs : Int32) (aS : Nat) (aA : Nat) (aB : Nat) (aN : Nat) (aM : Nat) (aL : Nat) (wa : Int32) (fo : Int32) (se : Int32) (fL : Nat → Int32) (fS : Nat → Int32) (fB : Nat → Int32) (hcnt : cnt ≤ 62) : Met l y_M_shared w_M_shared ({ frames := 0, cells := 0, slots := 0, locals := 0 }) (cx_Pc G D (cx_ty K) [(h0, .inr (2, [.int cd, .long seed, .long w, .int (nI cnt), .int vb, .int pl, .int vs, .ref aS, .ref aA, .ref aB, .ref aN, .ref aM, .ref aL, .int wa, .int fo, .int se])), (aL, .inl (K.2.1, 62, .inl fL)), (aS, .inl (K.1, 124, .inl fS)), (aB, .inl (K.1, 124, .inl fB))] sz [.ref h0]) (cx_Ql ((bd_bc (bd_cs fL fS fB cnt)).toInt64) D (cx_ty K) [(h0, .inr (2, [.int cd, .long seed, .long w, .int (nI cnt), .int vb, .int pl, .int vs, .ref aS, .ref aA, .ref aB, .ref aN, .ref aM, .ref aL, .int wa, .int fo, .int se])), (aL, .inl (K.2.1, 62, .inl fL)), (aS, .inl (K.1, 124, .inl fS)), (aB, .inl (K.1, 124, .inl fB))] (va_A [(h0, .inr (2, [.int cd, .long seed, .long w, .int (nI cnt), .int vb, .int pl, .int vs, .ref aS, .ref aA, .ref aB, .ref aN, .ref aM, .ref aL, .int wa, .int fo, .int se])), (aL, .inl (K.2.1, 62, .inl fL)), (aS, .inl (K.1, 124, .inl fS)), (aB, .inl (K.1, 124, .inl fB))] sz)) 0 0 (va_A [(h0, .inr (2, [.int cd, .long seed, .long w, .int (nI cnt), .int vb, .int pl, .int vs, .ref aS, .ref aA, .ref aB, .ref aN, .ref aM, .ref aL, .int wa, .int fo, .int se])), (aL, .inl (K.2.1, 62, .inl fL)), (aS, .inl (K.1, 124, .inl fS)), (aB, .inl (K.1, 124, .inl fB))] sz) := by
  refine Met.ofW (cc := prog_4_method_18_code) (maxL := 4) (ret := (some .long)) (by decide) rfl ?_
  intro p e s m args below meth c s₁ B hml hv
  obtain ⟨rfl, hsz, hP, hK, hD0, hE⟩ := hv
  have hx := B.exec
  have hb := B.bytes
  have hr := B.returns
  have hts := atoms_spec (ws := w_M_shared) B.pre
  have hw : ∀ w ∈ cw, w.before _ s = true := fun w h => hts w (List.mem_cons_of_mem _ h)
  have hown : s.vm.findClass "BuildDrawerModel" = some m.cls := findClass_of_methodNamed B.named
  have hlocks := B.notSynchronized
  subst hsz
  have hD := hD0.self (sz := s.heap.size)
  generalize hAe : va_A [(h0, .inr (2, [.int cd, .long seed, .long w, .int (nI cnt), .int vb, .int pl, .int vs, .ref aS, .ref aA, .ref aB, .ref aN, .ref aM, .ref aL, .int wa, .int fo, .int se])), (aL, .inl (K.2.1, 62, .inl fL)), (aS, .inl (K.1, 124, .inl fS)), (aB, .inl (K.1, 124, .inl fB))] s.heap.size = A at hD hE ⊢
  have hA : ∀ q : Nat, s.heap.size ≤ q → A q := fun q h => by rw [← hAe]; exact Or.inr h
  have hS : va_S A s.heap s.heap [] := va_S.rf
  have hl := lv_entry ([.ref h0]) (n := 4) (Nat.le_of_ble_eq_true rfl)
  rw [lg_entry_eq]
  generalize (lg_sl ([.ref h0]) ++ List.replicate (4 - (lg_sl ([.ref h0])).length) Slot.unset).toArray = ls at hl ⊢
  have hl : lv_has ls 4 [(0, .ref h0)] := hl
  refine lv_sipush (v := 255) hx hb d_M_shared_0 (by decide) ?_
  refine lv_istore_n (lv' := [(1, .int 255), (0, .ref h0)]) hx hb d_M_shared_3 rfl hl (by decide) rfl (fun ls hl => ?_)
  refine lv_iconst (v := 0) hx hb d_M_shared_4 (by decide) ?_
  refine lv_istore_n (lv' := [(2, .int 0), (1, .int 255), (0, .ref h0)]) hx hb d_M_shared_5 rfl hl (by decide) rfl (fun ls hl => ?_)
  refine cx_loop (pc := 6) (st := []) (fun (i : Nat) H locs ls => (i ≤ cnt) ∧ va_P D vwCl [(h0, .inr (2, [.int cd, .long seed, .long w, .int (nI cnt), .int vb, .int pl, .int vs, .ref aS, .ref aA, .ref aB, .ref aN, .ref aM, .ref aL, .int wa, .int fo, .int se])), (aL, .inl (K.2.1, 62, .inl fL)), (aS, .inl (K.1, 124, .inl fS)), (aB, .inl (K.1, 124, .inl fB))] H ∧ va_D A [(h0, .inr (2, [.int cd, .long seed, .long w, .int (nI cnt), .int vb, .int pl, .int vs, .ref aS, .ref aA, .ref aB, .ref aN, .ref aM, .ref aL, .int wa, .int fo, .int se])), (aL, .inl (K.2.1, 62, .inl fL)), (aS, .inl (K.1, 124, .inl fS)), (aB, .inl (K.1, 124, .inl fB))] ∧ va_S A s.heap H locs ∧ lv_has ls 4 [(2, .int (nI i)), (1, .int (bd_cs fL fS fB i)), (0, .ref h0)]) (fun (i : Nat) => cnt - i) (fun z H locs ls hI ih_6 => ?_) 0 ⟨Nat.zero_le _, hP, hD, hS, lv_sub hl [0, 1, 2] rfl⟩
  obtain ⟨i, rfl⟩ : ∃ y, y = z := ⟨_, rfl⟩
  obtain ⟨hi, hP, hD, hS, hl⟩ := hI
  have hP : va_P D vwCl [(h0, .inr (2, [.int cd, .long seed, .long w, .int (nI cnt), .int vb, .int pl, .int vs, .ref aS, .ref aA, .ref aB, .ref aN, .ref aM, .ref aL, .int wa, .int fo, .int se])), (aL, .inl (K.2.1, 62, .inl fL)), (aS, .inl (K.1, 124, .inl fS)), (aB, .inl (K.1, 124, .inl fB))] H := hP
  have hD : va_D A [(h0, .inr (2, [.int cd, .long seed, .long w, .int (nI cnt), .int vb, .int pl, .int vs, .ref aS, .ref aA, .ref aB, .ref aN, .ref aM, .ref aL, .int wa, .int fo, .int se])), (aL, .inl (K.2.1, 62, .inl fL)), (aS, .inl (K.1, 124, .inl fS)), (aB, .inl (K.1, 124, .inl fB))] := hD
  have hl : lv_has ls 4 [(2, .int (nI i)), (1, .int (bd_cs fL fS fB i)), (0, .ref h0)] := hl
  refine lv_iload_n hx hb d_M_shared_6 rfl (lv_at hl 0 rfl) ?_
  refine lv_aload_n hx hb d_M_shared_7 rfl (lv_at hl 2 rfl) ?_
  refine va_get (D := D) (ci := 2) (v := .int (nI cnt)) (C := "BuildDrawerModel") (T := TM) (N := 16) hx hb hw inM hown hK hP 0 rfl rfl 3 (by decide) (hw _ k_306) (fun _ h9 => h9) rfl d_M_shared_8 ?_
  refine lv_icmp_ge (tgt := 48) hx hb d_M_shared_11 (by decide) (fun r_11 => ?_) (fun r_11 => ?_)
  · have c_11 := (nI_leI (a := cnt) (b := i) (by omega) (by omega)).mp r_11
    refine lv_iconst (v := 0) hx hb d_M_shared_48 (by decide) ?_
    refine lv_istore_n (lv' := [(2, .int 0), (1, .int (bd_cs fL fS fB i)), (0, .ref h0)]) hx hb d_M_shared_49 rfl hl (by decide) rfl (fun ls hl => ?_)
    refine lv_iconst (v := 0) hx hb d_M_shared_50 (by decide) ?_
    refine lv_istore_n (lv' := [(3, .int 0), (2, .int 0), (1, .int (bd_cs fL fS fB i)), (0, .ref h0)]) hx hb d_M_shared_51 rfl hl (by decide) rfl (fun ls hl => ?_)
    refine cx_loop (pc := 52) (st := []) (fun (k : Nat) H locs ls => (k ≤ 8) ∧ va_P D vwCl [(h0, .inr (2, [.int cd, .long seed, .long w, .int (nI cnt), .int vb, .int pl, .int vs, .ref aS, .ref aA, .ref aB, .ref aN, .ref aM, .ref aL, .int wa, .int fo, .int se])), (aL, .inl (K.2.1, 62, .inl fL)), (aS, .inl (K.1, 124, .inl fS)), (aB, .inl (K.1, 124, .inl fB))] H ∧ va_D A [(h0, .inr (2, [.int cd, .long seed, .long w, .int (nI cnt), .int vb, .int pl, .int vs, .ref aS, .ref aA, .ref aB, .ref aN, .ref aM, .ref aL, .int wa, .int fo, .int se])), (aL, .inl (K.2.1, 62, .inl fL)), (aS, .inl (K.1, 124, .inl fS)), (aB, .inl (K.1, 124, .inl fB))] ∧ va_S A s.heap H locs ∧ lv_has ls 4 [(3, .int (nI k)), (2, .int (bd_sb (bd_cs fL fS fB i) k)), (1, .int (bd_cs fL fS fB i)), (0, .ref h0)]) (fun (k : Nat) => 8 - k) (fun z H locs ls hI ih_52 => ?_) 0 ⟨Nat.zero_le _, hP, hD, hS, lv_sub hl [0, 1, 2, 3] rfl⟩
    obtain ⟨k, rfl⟩ : ∃ y, y = z := ⟨_, rfl⟩
    obtain ⟨hk, hP, hD, hS, hl⟩ := hI
    have hP : va_P D vwCl [(h0, .inr (2, [.int cd, .long seed, .long w, .int (nI cnt), .int vb, .int pl, .int vs, .ref aS, .ref aA, .ref aB, .ref aN, .ref aM, .ref aL, .int wa, .int fo, .int se])), (aL, .inl (K.2.1, 62, .inl fL)), (aS, .inl (K.1, 124, .inl fS)), (aB, .inl (K.1, 124, .inl fB))] H := hP
    have hD : va_D A [(h0, .inr (2, [.int cd, .long seed, .long w, .int (nI cnt), .int vb, .int pl, .int vs, .ref aS, .ref aA, .ref aB, .ref aN, .ref aM, .ref aL, .int wa, .int fo, .int se])), (aL, .inl (K.2.1, 62, .inl fL)), (aS, .inl (K.1, 124, .inl fS)), (aB, .inl (K.1, 124, .inl fB))] := hD
    have hl : lv_has ls 4 [(3, .int (nI k)), (2, .int (bd_sb (bd_cs fL fS fB i) k)), (1, .int (bd_cs fL fS fB i)), (0, .ref h0)] := hl
    refine lv_iload_n hx hb d_M_shared_52 rfl (lv_at hl 0 rfl) ?_
    refine lv_bipush (v := 8) hx hb d_M_shared_53 (by decide) ?_
    refine lv_icmp_ge (tgt := 72) hx hb d_M_shared_55 (by decide) (fun r_55 => ?_) (fun r_55 => ?_)
    · have c_55 := (nI_leI (a := 8) (b := k) (by omega) (by omega)).mp r_55
      refine lv_iload_n hx hb d_M_shared_72 rfl (lv_at hl 1 rfl) ?_
      refine lv_i2l (v := (bd_sb (bd_cs fL fS fB i) k).toInt64) hx hb d_M_shared_73 (rfl) ?_
      exact cx_lret hx hb hr hlocks hK hP hD hS d_M_shared_74 (by obtain ⟨m9, hm9, e9⟩ := bd_cs_lt fL fS fB cnt; rw [show i = cnt by omega, show k = 8 by omega, e9, bd_sb_bc m9 hm9]) (rfl)
    · have c_55 := mt (nI_leI (a := 8) (b := k) (by omega) (by omega)).mpr r_55
      refine lv_iload_n hx hb d_M_shared_58 rfl (lv_at hl 1 rfl) ?_
      refine lv_iload_n hx hb d_M_shared_59 rfl (lv_at hl 2 rfl) ?_
      refine lv_iload_n hx hb d_M_shared_60 rfl (lv_at hl 0 rfl) ?_
      refine lv_ishr hx hb d_M_shared_61 ?_
      refine lv_iconst (v := 1) hx hb d_M_shared_62 (by decide) ?_
      refine lv_iand hx hb d_M_shared_63 ?_
      refine lv_iadd hx hb d_M_shared_64 ?_
      refine cx_ti (y := bd_sb (bd_cs fL fS fB i) (k + 1)) (rfl) ?_
      refine lv_istore_n (lv' := [(2, .int (bd_sb (bd_cs fL fS fB i) (k + 1))), (3, .int (nI k)), (1, .int (bd_cs fL fS fB i)), (0, .ref h0)]) hx hb d_M_shared_65 rfl hl (by decide) rfl (fun ls hl => ?_)
      refine lv_iinc (v := nI (k + 1)) (lv' := [(3, .int (nI (k + 1))), (2, .int (bd_sb (bd_cs fL fS fB i) (k + 1))), (1, .int (bd_cs fL fS fB i)), (0, .ref h0)]) hx hb d_M_shared_66 hl (k := 1) rfl (by exact cx_inc k) (by decide) rfl (fun ls hl => ?_)
      refine lv_goto (tgt := 52) hx hb d_M_shared_69 (by decide) ?_
      exact ih_52 (k + 1) _ _ _ ⟨(by omega), hP, hD, hS, lv_sub hl [0, 1, 2, 3] rfl⟩ (by omega)
  · have c_11 := mt (nI_leI (a := cnt) (b := i) (by omega) (by omega)).mpr r_11
    refine lv_aload_n hx hb d_M_shared_14 rfl (lv_at hl 2 rfl) ?_
    refine va_get (D := D) (ci := 2) (v := .ref aL) (C := "BuildDrawerModel") (T := TM) (N := 16) hx hb hw inM hown hK hP 0 rfl rfl 12 (by decide) (hw _ k_315) (fun _ h9 => h9) rfl d_M_shared_15 ?_
    refine lv_iload_n hx hb d_M_shared_18 rfl (lv_at hl 0 rfl) ?_
    refine va_zald hx hb hK hP 1 1 rfl rfl (vp_in_nI (n := i) (by omega) (by omega)) d_M_shared_19 ?_
    refine cx_ti (y := fL i) (by rw [nI_clamp (by omega)]) ?_
    refine lv_if_eq (tgt := 42) hx hb d_M_shared_20 (by decide) (fun r_20 => ?_) (fun r_20 => ?_)
    · have c_20 := r_20
      have e_i : bd_cs fL fS fB (i + 1) = bd_cs fL fS fB i := by rw [bd_cs, if_pos r_20]
      rw [← e_i] at hl
      refine lv_iinc (v := nI (i + 1)) (lv' := [(2, .int (nI (i + 1))), (1, .int (bd_cs fL fS fB (i + 1))), (0, .ref h0)]) hx hb d_M_shared_42 hl (k := 0) rfl (by exact cx_inc i) (by decide) rfl (fun ls hl => ?_)
      refine lv_goto (tgt := 6) hx hb d_M_shared_45 (by decide) ?_
      exact ih_6 (i + 1) _ _ _ ⟨(by omega), hP, hD, hS, lv_sub hl [0, 1, 2] rfl⟩ (by omega)
    · have c_20 := r_20
      refine lv_aload_n hx hb d_M_shared_23 rfl (lv_at hl 2 rfl) ?_
      refine va_get (D := D) (ci := 2) (v := .ref aS) (C := "BuildDrawerModel") (T := TM) (N := 16) hx hb hw inM hown hK hP 0 rfl rfl 7 (by decide) (hw _ k_310) (fun _ h9 => h9) rfl d_M_shared_24 ?_
      refine lv_iload_n hx hb d_M_shared_27 rfl (lv_at hl 0 rfl) ?_
      refine va_iald hx hb hK hP 2 0 rfl rfl (vp_in_nI (n := i) (by omega) (by omega)) d_M_shared_28 ?_
      refine cx_ti (y := fS i) (by rw [nI_clamp (by omega)]) ?_
      refine lv_iconst (v := 2) hx hb d_M_shared_29 (by decide) ?_
      refine lv_icmp_ne (tgt := 42) hx hb d_M_shared_30 (by decide) (fun r_30 => ?_) (fun r_30 => ?_)
      · have c_30 := r_30
        have e_i : bd_cs fL fS fB (i + 1) = bd_cs fL fS fB i := by rw [bd_cs, if_neg r_20, if_neg r_30]
        rw [← e_i] at hl
        refine lv_iinc (v := nI (i + 1)) (lv' := [(2, .int (nI (i + 1))), (1, .int (bd_cs fL fS fB (i + 1))), (0, .ref h0)]) hx hb d_M_shared_42 hl (k := 0) rfl (by exact cx_inc i) (by decide) rfl (fun ls hl => ?_)
        refine lv_goto (tgt := 6) hx hb d_M_shared_45 (by decide) ?_
        exact ih_6 (i + 1) _ _ _ ⟨(by omega), hP, hD, hS, lv_sub hl [0, 1, 2] rfl⟩ (by omega)
      · have c_30 := r_30
        have e_i : bd_cs fL fS fB (i + 1) = bd_cs fL fS fB i &&& fB i := by rw [bd_cs, if_neg r_20, if_pos r_30]
        refine lv_iload_n hx hb d_M_shared_33 rfl (lv_at hl 1 rfl) ?_
        refine lv_aload_n hx hb d_M_shared_34 rfl (lv_at hl 2 rfl) ?_
        refine va_get (D := D) (ci := 2) (v := .ref aB) (C := "BuildDrawerModel") (T := TM) (N := 16) hx hb hw inM hown hK hP 0 rfl rfl 9 (by decide) (hw _ k_312) (fun _ h9 => h9) rfl d_M_shared_35 ?_
        refine lv_iload_n hx hb d_M_shared_38 rfl (lv_at hl 0 rfl) ?_
        refine va_iald hx hb hK hP 3 0 rfl rfl (vp_in_nI (n := i) (by omega) (by omega)) d_M_shared_39 ?_
        refine cx_ti (y := fB i) (by rw [nI_clamp (by omega)]) ?_
        refine lv_iand hx hb d_M_shared_40 ?_
        refine lv_istore_n (lv' := [(1, .int ((bd_cs fL fS fB i) &&& (fB i))), (2, .int (nI i)), (0, .ref h0)]) hx hb d_M_shared_41 rfl hl (by decide) rfl (fun ls hl => ?_)
        rw [← e_i] at hl
        refine lv_iinc (v := nI (i + 1)) (lv' := [(2, .int (nI (i + 1))), (1, .int (bd_cs fL fS fB (i + 1))), (0, .ref h0)]) hx hb d_M_shared_42 hl (k := 1) rfl (by exact cx_inc i) (by decide) rfl (fun ls hl => ?_)
        refine lv_goto (tgt := 6) hx hb d_M_shared_45 (by decide) ?_
        exact ih_6 (i + 1) _ _ _ ⟨(by omega), hP, hD, hS, lv_sub hl [0, 1, 2] rfl⟩ (by omega)
set_option maxHeartbeats 4000000 in
set_option maxRecDepth 100000 in
theorem c_M_part (l : Launch) (G : cx_G) (D : va_G) (K : cx_KT) (sz : Nat) (h0 : Nat) (cd : Int32) (seed : Int64) (w : Int64) (cnt : Nat) (vb : Int32) (pl : Int32) (vs : Int32) (aS : Nat) (aA : Nat) (aB : Nat) (aN : Nat) (aM : Nat) (aL : Nat) (wa : Int32) (fo : Int32) (se : Int32) (fS : Nat → Int32) (fA : Nat → Int32) (fB : Nat → Int32) (fN : Nat → Int32) (fM : Nat → Int32) (fL : Nat → Int32) (k : Nat) (wh : Int32) (hcnt : cnt ≤ 62) (hk : k < cnt) : Met l y_M_part w_M_part ({ frames := 1, cells := 0, slots := 0, locals := 23 }) (cx_Pc G D (cx_ty K) [(h0, .inr (2, [.int cd, .long seed, .long w, .int (nI cnt), .int vb, .int pl, .int vs, .ref aS, .ref aA, .ref aB, .ref aN, .ref aM, .ref aL, .int wa, .int fo, .int se])), (aS, .inl (K.1, 124, .inl fS)), (aA, .inl (K.1, 124, .inl fA)), (aB, .inl (K.1, 124, .inl fB)), (aN, .inl (K.1, 124, .inl fN)), (aM, .inl (K.1, 124, .inl fM)), (aL, .inl (K.2.1, 62, .inl fL))] sz [.ref h0, .int (nI k), .int wh]) (cx_Ql (bd_part fS fA fB fN fM fL cnt k wh) D (cx_ty K) [(h0, .inr (2, [.int 0, .long seed, .long w, .int (nI cnt), .int vb, .int pl, .int vs, .ref aS, .ref aA, .ref aB, .ref aN, .ref aM, .ref aL, .int wa, .int fo, .int se])), (aS, .inl (K.1, 124, .inl fS)), (aA, .inl (K.1, 124, .inl fA)), (aB, .inl (K.1, 124, .inl fB)), (aN, .inl (K.1, 124, .inl fN)), (aM, .inl (K.1, 124, .inl fM)), (aL, .inl (K.2.1, 62, .inl fL))] (va_A [(h0, .inr (2, [.int cd, .long seed, .long w, .int (nI cnt), .int vb, .int pl, .int vs, .ref aS, .ref aA, .ref aB, .ref aN, .ref aM, .ref aL, .int wa, .int fo, .int se])), (aS, .inl (K.1, 124, .inl fS)), (aA, .inl (K.1, 124, .inl fA)), (aB, .inl (K.1, 124, .inl fB)), (aN, .inl (K.1, 124, .inl fN)), (aM, .inl (K.1, 124, .inl fM)), (aL, .inl (K.2.1, 62, .inl fL))] sz)) 0 0 (va_A [(h0, .inr (2, [.int cd, .long seed, .long w, .int (nI cnt), .int vb, .int pl, .int vs, .ref aS, .ref aA, .ref aB, .ref aN, .ref aM, .ref aL, .int wa, .int fo, .int se])), (aS, .inl (K.1, 124, .inl fS)), (aA, .inl (K.1, 124, .inl fA)), (aB, .inl (K.1, 124, .inl fB)), (aN, .inl (K.1, 124, .inl fN)), (aM, .inl (K.1, 124, .inl fM)), (aL, .inl (K.2.1, 62, .inl fL))] sz) := by
  refine Met.ofW (cc := prog_4_method_17_code) (maxL := 3) (ret := (some .long)) (by decide) rfl ?_
  intro p e s m args below meth c s₁ B hml hv
  obtain ⟨rfl, hsz, hP, hK, hD0, hE⟩ := hv
  have hx := B.exec
  have hb := B.bytes
  have hr := B.returns
  have hts := atoms_spec (ws := w_M_part) B.pre
  have hw : ∀ w ∈ cw, w.before _ s = true := fun w h => hts w (List.mem_cons_of_mem _ h)
  have hown : s.vm.findClass "BuildDrawerModel" = some m.cls := findClass_of_methodNamed B.named
  have hlocks := B.notSynchronized
  subst hsz
  have hD := hD0.self (sz := s.heap.size)
  generalize hAe : va_A [(h0, .inr (2, [.int cd, .long seed, .long w, .int (nI cnt), .int vb, .int pl, .int vs, .ref aS, .ref aA, .ref aB, .ref aN, .ref aM, .ref aL, .int wa, .int fo, .int se])), (aS, .inl (K.1, 124, .inl fS)), (aA, .inl (K.1, 124, .inl fA)), (aB, .inl (K.1, 124, .inl fB)), (aN, .inl (K.1, 124, .inl fN)), (aM, .inl (K.1, 124, .inl fM)), (aL, .inl (K.2.1, 62, .inl fL))] s.heap.size = A at hD hE ⊢
  have hA : ∀ q : Nat, s.heap.size ≤ q → A q := fun q h => by rw [← hAe]; exact Or.inr h
  have hS : va_S A s.heap s.heap [] := va_S.rf
  have hl := lv_entry ([.ref h0, .int (nI k), .int wh]) (n := 3) (Nat.le_of_ble_eq_true rfl)
  rw [lg_entry_eq]
  generalize (lg_sl ([.ref h0, .int (nI k), .int wh]) ++ List.replicate (3 - (lg_sl ([.ref h0, .int (nI k), .int wh])).length) Slot.unset).toArray = ls at hl ⊢
  have hl : lv_has ls 3 [(0, .ref h0), (1, .int (nI k)), (2, .int wh)] := hl
  refine lv_aload_n hx hb d_M_part_0 rfl (lv_at hl 0 rfl) ?_
  refine lv_iconst (v := 0) hx hb d_M_part_1 (by decide) ?_
  refine va_put (D := D) (ci := 2) (v := .int 0) (ty := .int) (C := "BuildDrawerModel") (T := TM) (N := 16) hx hb hw inM tyM tyM_ok nmM hown hK hP hD hS 0 rfl rfl 0 (by decide) (hw _ k_303) (fun _ h9 => h9) rfl (by decide +kernel) rfl rfl (Nat.le_of_ble_eq_true rfl) d_M_part_2 (fun H locs hP hD hS => ?_)
  have hP : va_P D vwCl [(h0, .inr (2, [.int 0, .long seed, .long w, .int (nI cnt), .int vb, .int pl, .int vs, .ref aS, .ref aA, .ref aB, .ref aN, .ref aM, .ref aL, .int wa, .int fo, .int se])), (aS, .inl (K.1, 124, .inl fS)), (aA, .inl (K.1, 124, .inl fA)), (aB, .inl (K.1, 124, .inl fB)), (aN, .inl (K.1, 124, .inl fN)), (aM, .inl (K.1, 124, .inl fM)), (aL, .inl (K.2.1, 62, .inl fL))] H := hP
  have hD : va_D A [(h0, .inr (2, [.int 0, .long seed, .long w, .int (nI cnt), .int vb, .int pl, .int vs, .ref aS, .ref aA, .ref aB, .ref aN, .ref aM, .ref aL, .int wa, .int fo, .int se])), (aS, .inl (K.1, 124, .inl fS)), (aA, .inl (K.1, 124, .inl fA)), (aB, .inl (K.1, 124, .inl fB)), (aN, .inl (K.1, 124, .inl fN)), (aM, .inl (K.1, 124, .inl fM)), (aL, .inl (K.2.1, 62, .inl fL))] := hD
  refine lv_iload_n hx hb d_M_part_5 rfl (lv_at hl 1 rfl) ?_
  refine lv_if_lt (tgt := 17) hx hb d_M_part_6 (by decide) (fun r_6 => ?_) (fun r_6 => ?_)
  · have c_6 := (nI_ltI (a := k) (b := 0) (by omega) (by omega)).mp r_6
    omega
  · have c_6 := mt (nI_ltI (a := k) (b := 0) (by omega) (by omega)).mpr r_6
    refine lv_iload_n hx hb d_M_part_9 rfl (lv_at hl 1 rfl) ?_
    refine lv_aload_n hx hb d_M_part_10 rfl (lv_at hl 0 rfl) ?_
    refine va_get (D := D) (ci := 2) (v := .int (nI cnt)) (C := "BuildDrawerModel") (T := TM) (N := 16) hx hb hw inM hown hK hP 0 rfl rfl 3 (by decide) (hw _ k_306) (fun _ h9 => h9) rfl d_M_part_11 ?_
    refine lv_icmp_lt (tgt := 21) hx hb d_M_part_14 (by decide) (fun r_14 => ?_) (fun r_14 => ?_)
    · have c_14 := (nI_ltI (a := k) (b := cnt) (by omega) (by omega)).mp r_14
      refine lv_iload_n hx hb d_M_part_21 rfl (lv_at hl 2 rfl) ?_
      by_cases z_0 : wh = 0
      · refine lv_tableIn (tgt := 64) (off := 42) hx hb d_M_part_22 (by rw [z_0]; decide) (by rw [z_0]; decide) (by rw [z_0]; rfl) (by decide) ?_
        refine lv_aload_n hx hb d_M_part_64 rfl (lv_at hl 0 rfl) ?_
        refine va_get (D := D) (ci := 2) (v := .ref aS) (C := "BuildDrawerModel") (T := TM) (N := 16) hx hb hw inM hown hK hP 0 rfl rfl 7 (by decide) (hw _ k_310) (fun _ h9 => h9) rfl d_M_part_65 ?_
        refine lv_iload_n hx hb d_M_part_68 rfl (lv_at hl 1 rfl) ?_
        refine va_iald hx hb hK hP 1 0 rfl rfl (vp_in_nI (n := k) (by omega) (by omega)) d_M_part_69 ?_
        refine cx_ti (y := fS k) (by rw [nI_clamp (by omega)]) ?_
        refine lv_i2l (v := (fS k).toInt64) hx hb d_M_part_70 (rfl) ?_
        exact cx_lret hx hb hr hlocks hK hP hD hS d_M_part_71 (by simp only [bd_part, if_pos z_0]) (rfl)
      by_cases z_1 : wh = 1
      · refine lv_tableIn (tgt := 72) (off := 50) hx hb d_M_part_22 (by rw [z_1]; decide) (by rw [z_1]; decide) (by rw [z_1]; rfl) (by decide) ?_
        refine lv_aload_n hx hb d_M_part_72 rfl (lv_at hl 0 rfl) ?_
        refine va_get (D := D) (ci := 2) (v := .ref aA) (C := "BuildDrawerModel") (T := TM) (N := 16) hx hb hw inM hown hK hP 0 rfl rfl 8 (by decide) (hw _ k_311) (fun _ h9 => h9) rfl d_M_part_73 ?_
        refine lv_iload_n hx hb d_M_part_76 rfl (lv_at hl 1 rfl) ?_
        refine va_iald hx hb hK hP 2 0 rfl rfl (vp_in_nI (n := k) (by omega) (by omega)) d_M_part_77 ?_
        refine cx_ti (y := fA k) (by rw [nI_clamp (by omega)]) ?_
        refine lv_i2l (v := (fA k).toInt64) hx hb d_M_part_78 (rfl) ?_
        exact cx_lret hx hb hr hlocks hK hP hD hS d_M_part_79 (by simp only [bd_part, if_neg z_0, if_pos z_1]) (rfl)
      by_cases z_2 : wh = 2
      · refine lv_tableIn (tgt := 80) (off := 58) hx hb d_M_part_22 (by rw [z_2]; decide) (by rw [z_2]; decide) (by rw [z_2]; rfl) (by decide) ?_
        refine lv_aload_n hx hb d_M_part_80 rfl (lv_at hl 0 rfl) ?_
        refine va_get (D := D) (ci := 2) (v := .ref aB) (C := "BuildDrawerModel") (T := TM) (N := 16) hx hb hw inM hown hK hP 0 rfl rfl 9 (by decide) (hw _ k_312) (fun _ h9 => h9) rfl d_M_part_81 ?_
        refine lv_iload_n hx hb d_M_part_84 rfl (lv_at hl 1 rfl) ?_
        refine va_iald hx hb hK hP 3 0 rfl rfl (vp_in_nI (n := k) (by omega) (by omega)) d_M_part_85 ?_
        refine cx_ti (y := fB k) (by rw [nI_clamp (by omega)]) ?_
        refine lv_i2l (v := (fB k).toInt64) hx hb d_M_part_86 (rfl) ?_
        exact cx_lret hx hb hr hlocks hK hP hD hS d_M_part_87 (by simp only [bd_part, if_neg z_0, if_neg z_1, if_pos z_2]) (rfl)
      by_cases z_3 : wh = 3
      · refine lv_tableIn (tgt := 88) (off := 66) hx hb d_M_part_22 (by rw [z_3]; decide) (by rw [z_3]; decide) (by rw [z_3]; rfl) (by decide) ?_
        refine lv_aload_n hx hb d_M_part_88 rfl (lv_at hl 0 rfl) ?_
        refine va_get (D := D) (ci := 2) (v := .ref aN) (C := "BuildDrawerModel") (T := TM) (N := 16) hx hb hw inM hown hK hP 0 rfl rfl 10 (by decide) (hw _ k_313) (fun _ h9 => h9) rfl d_M_part_89 ?_
        refine lv_iload_n hx hb d_M_part_92 rfl (lv_at hl 1 rfl) ?_
        refine va_iald hx hb hK hP 4 0 rfl rfl (vp_in_nI (n := k) (by omega) (by omega)) d_M_part_93 ?_
        refine cx_ti (y := fN k) (by rw [nI_clamp (by omega)]) ?_
        refine lv_i2l (v := (fN k).toInt64) hx hb d_M_part_94 (rfl) ?_
        exact cx_lret hx hb hr hlocks hK hP hD hS d_M_part_95 (by simp only [bd_part, if_neg z_0, if_neg z_1, if_neg z_2, if_pos z_3]) (rfl)
      by_cases z_4 : wh = 4
      · refine lv_tableIn (tgt := 96) (off := 74) hx hb d_M_part_22 (by rw [z_4]; decide) (by rw [z_4]; decide) (by rw [z_4]; rfl) (by decide) ?_
        refine lv_aload_n hx hb d_M_part_96 rfl (lv_at hl 0 rfl) ?_
        refine va_get (D := D) (ci := 2) (v := .ref aM) (C := "BuildDrawerModel") (T := TM) (N := 16) hx hb hw inM hown hK hP 0 rfl rfl 11 (by decide) (hw _ k_314) (fun _ h9 => h9) rfl d_M_part_97 ?_
        refine lv_iload_n hx hb d_M_part_100 rfl (lv_at hl 1 rfl) ?_
        refine va_iald hx hb hK hP 5 0 rfl rfl (vp_in_nI (n := k) (by omega) (by omega)) d_M_part_101 ?_
        refine cx_ti (y := fM k) (by rw [nI_clamp (by omega)]) ?_
        refine lv_i2l (v := (fM k).toInt64) hx hb d_M_part_102 (rfl) ?_
        exact cx_lret hx hb hr hlocks hK hP hD hS d_M_part_103 (by simp only [bd_part, if_neg z_0, if_neg z_1, if_neg z_2, if_neg z_3, if_pos z_4]) (rfl)
      by_cases z_5 : wh = 5
      · refine lv_tableIn (tgt := 104) (off := 82) hx hb d_M_part_22 (by rw [z_5]; decide) (by rw [z_5]; decide) (by rw [z_5]; rfl) (by decide) ?_
        refine lv_aload_n hx hb d_M_part_104 rfl (lv_at hl 0 rfl) ?_
        refine va_get (D := D) (ci := 2) (v := .ref aL) (C := "BuildDrawerModel") (T := TM) (N := 16) hx hb hw inM hown hK hP 0 rfl rfl 12 (by decide) (hw _ k_315) (fun _ h9 => h9) rfl d_M_part_105 ?_
        refine lv_iload_n hx hb d_M_part_108 rfl (lv_at hl 1 rfl) ?_
        refine va_zald hx hb hK hP 6 1 rfl rfl (vp_in_nI (n := k) (by omega) (by omega)) d_M_part_109 ?_
        refine cx_ti (y := fL k) (by rw [nI_clamp (by omega)]) ?_
        refine lv_if_eq (tgt := 117) hx hb d_M_part_110 (by decide) (fun r_110 => ?_) (fun r_110 => ?_)
        · have c_110 := r_110
          refine lv_lconst (v := 0) hx hb d_M_part_117 (by decide) ?_
          exact cx_lret hx hb hr hlocks hK hP hD hS d_M_part_118 (by simp only [bd_part, if_neg z_0, if_neg z_1, if_neg z_2, if_neg z_3, if_neg z_4, if_pos z_5, if_pos r_110]) (rfl)
        · have c_110 := r_110
          refine lv_lconst (v := 1) hx hb d_M_part_113 (by decide) ?_
          refine lv_goto (tgt := 118) hx hb d_M_part_114 (by decide) ?_
          exact cx_lret hx hb hr hlocks hK hP hD hS d_M_part_118 (by simp only [bd_part, if_neg z_0, if_neg z_1, if_neg z_2, if_neg z_3, if_neg z_4, if_pos z_5, if_neg r_110]) (rfl)
      by_cases z_6 : wh = 6
      · refine lv_tableIn (tgt := 119) (off := 97) hx hb d_M_part_22 (by rw [z_6]; decide) (by rw [z_6]; decide) (by rw [z_6]; rfl) (by decide) ?_
        refine lv_aload_n hx hb d_M_part_119 rfl (lv_at hl 0 rfl) ?_
        refine cx_cl (wr := [(aA, .inl (K.1, 124, .inl fA)), (aN, .inl (K.1, 124, .inl fN)), (aM, .inl (K.1, 124, .inl fM))]) (wN := [(h0, .inr (2, [.int 0, .long seed, .long w, .int (nI cnt), .int vb, .int pl, .int vs, .ref aS, .ref aA, .ref aB, .ref aN, .ref aM, .ref aL, .int wa, .int fo, .int se])), (aS, .inl (K.1, 124, .inl fS)), (aA, .inl (K.1, 124, .inl fA)), (aB, .inl (K.1, 124, .inl fB)), (aN, .inl (K.1, 124, .inl fN)), (aM, .inl (K.1, 124, .inl fM)), (aL, .inl (K.2.1, 62, .inl fL))]) (va_runV (As := []) (rest := []) ⟨hx, hb, hml, hown, hw⟩ (c_M_shared l G D K H.size h0 0 seed w cnt vb pl vs aS aA aB aN aM aL wa fo se fL fS fB (by omega)) (cwV 0 hw (cx_gV k_414 k_416 ks_M_shared k_3 k_417) rfl rfl rfl (by decide +kernel) ⟨Nat.le_of_ble_eq_true rfl, Nat.le_of_ble_eq_true rfl⟩) (cx_preV (q0 := 0) (ci := 2) hK hP hD hS hA hE rfl rfl [0, 6, 1, 3] rfl rfl (by decide)) rfl rfl hl.1 rfl (lv_room (Nat.le_of_ble_eq_true rfl)) d_M_part_120 ⟨Nat.le_of_ble_eq_true rfl, Nat.le_of_ble_eq_true rfl⟩) hP hD hS hA [0, 6, 1, 3] [2, 4, 5] rfl rfl (by decide) (by decide) [3, 5, 0, 6, 1, 2, 4] rfl rfl (by decide) (fun H locs hP hD hS => ?_)
        exact cx_lret hx hb hr hlocks hK hP hD hS d_M_part_123 (by simp only [bd_part, if_neg z_0, if_neg z_1, if_neg z_2, if_neg z_3, if_neg z_4, if_neg z_5, if_pos z_6]) (rfl)
      refine lv_tableOut (tgt := 124) hx hb d_M_part_22 (cx_out7 z_0 z_1 z_2 z_3 z_4 z_5 z_6) (by decide) ?_
      refine lv_ldc2 (v := (-2)) hx hb hown (hw _ k_418) d_M_part_124 ?_
      exact cx_lret hx hb hr hlocks hK hP hD hS d_M_part_127 (by simp only [bd_part, if_neg z_0, if_neg z_1, if_neg z_2, if_neg z_3, if_neg z_4, if_neg z_5, if_neg z_6]) (rfl)
    · have c_14 := mt (nI_ltI (a := k) (b := cnt) (by omega) (by omega)).mpr r_14
      omega
set_option maxHeartbeats 4000000 in
set_option maxRecDepth 100000 in
theorem c_M_partN (l : Launch) (G : cx_G) (D : va_G) (K : cx_KT) (sz : Nat) (h0 : Nat) (cd : Int32) (seed : Int64) (w : Int64) (cnt : Nat) (vb : Int32) (pl : Int32) (vs : Int32) (aS : Nat) (aA : Nat) (aB : Nat) (aN : Nat) (aM : Nat) (aL : Nat) (wa : Int32) (fo : Int32) (se : Int32) (i : Int32) (wh : Int32) (hcnt : cnt ≤ 62) (hno : bd_ip cnt i = 0) : Met l y_M_part w_M_part ({ frames := 0, cells := 0, slots := 0, locals := 0 }) (cx_Pc G D (cx_ty K) [(h0, .inr (2, [.int cd, .long seed, .long w, .int (nI cnt), .int vb, .int pl, .int vs, .ref aS, .ref aA, .ref aB, .ref aN, .ref aM, .ref aL, .int wa, .int fo, .int se]))] sz [.ref h0, .int i, .int wh]) (cx_Ql (-1) D (cx_ty K) [(h0, .inr (2, [.int 0, .long seed, .long w, .int (nI cnt), .int vb, .int pl, .int vs, .ref aS, .ref aA, .ref aB, .ref aN, .ref aM, .ref aL, .int wa, .int fo, .int se]))] (va_A [(h0, .inr (2, [.int cd, .long seed, .long w, .int (nI cnt), .int vb, .int pl, .int vs, .ref aS, .ref aA, .ref aB, .ref aN, .ref aM, .ref aL, .int wa, .int fo, .int se]))] sz)) 0 0 (va_A [(h0, .inr (2, [.int cd, .long seed, .long w, .int (nI cnt), .int vb, .int pl, .int vs, .ref aS, .ref aA, .ref aB, .ref aN, .ref aM, .ref aL, .int wa, .int fo, .int se]))] sz) := by
  refine Met.ofW (cc := prog_4_method_17_code) (maxL := 3) (ret := (some .long)) (by decide) rfl ?_
  intro p e s m args below meth c s₁ B hml hv
  obtain ⟨rfl, hsz, hP, hK, hD0, hE⟩ := hv
  have hx := B.exec
  have hb := B.bytes
  have hr := B.returns
  have hts := atoms_spec (ws := w_M_part) B.pre
  have hw : ∀ w ∈ cw, w.before _ s = true := fun w h => hts w (List.mem_cons_of_mem _ h)
  have hown : s.vm.findClass "BuildDrawerModel" = some m.cls := findClass_of_methodNamed B.named
  have hlocks := B.notSynchronized
  subst hsz
  have hD := hD0.self (sz := s.heap.size)
  generalize hAe : va_A [(h0, .inr (2, [.int cd, .long seed, .long w, .int (nI cnt), .int vb, .int pl, .int vs, .ref aS, .ref aA, .ref aB, .ref aN, .ref aM, .ref aL, .int wa, .int fo, .int se]))] s.heap.size = A at hD hE ⊢
  have hA : ∀ q : Nat, s.heap.size ≤ q → A q := fun q h => by rw [← hAe]; exact Or.inr h
  have hS : va_S A s.heap s.heap [] := va_S.rf
  have hl := lv_entry ([.ref h0, .int i, .int wh]) (n := 3) (Nat.le_of_ble_eq_true rfl)
  rw [lg_entry_eq]
  generalize (lg_sl ([.ref h0, .int i, .int wh]) ++ List.replicate (3 - (lg_sl ([.ref h0, .int i, .int wh])).length) Slot.unset).toArray = ls at hl ⊢
  have hl : lv_has ls 3 [(0, .ref h0), (1, .int i), (2, .int wh)] := hl
  refine lv_aload_n hx hb d_M_part_0 rfl (lv_at hl 0 rfl) ?_
  refine lv_iconst (v := 0) hx hb d_M_part_1 (by decide) ?_
  refine va_put (D := D) (ci := 2) (v := .int 0) (ty := .int) (C := "BuildDrawerModel") (T := TM) (N := 16) hx hb hw inM tyM tyM_ok nmM hown hK hP hD hS 0 rfl rfl 0 (by decide) (hw _ k_303) (fun _ h9 => h9) rfl (by decide +kernel) rfl rfl (Nat.le_of_ble_eq_true rfl) d_M_part_2 (fun H locs hP hD hS => ?_)
  have hP : va_P D vwCl [(h0, .inr (2, [.int 0, .long seed, .long w, .int (nI cnt), .int vb, .int pl, .int vs, .ref aS, .ref aA, .ref aB, .ref aN, .ref aM, .ref aL, .int wa, .int fo, .int se]))] H := hP
  have hD : va_D A [(h0, .inr (2, [.int 0, .long seed, .long w, .int (nI cnt), .int vb, .int pl, .int vs, .ref aS, .ref aA, .ref aB, .ref aN, .ref aM, .ref aL, .int wa, .int fo, .int se]))] := hD
  refine lv_iload_n hx hb d_M_part_5 rfl (lv_at hl 1 rfl) ?_
  refine lv_if_lt (tgt := 17) hx hb d_M_part_6 (by decide) (fun r_6 => ?_) (fun r_6 => ?_)
  · have c_6 := r_6
    refine lv_ldc2 (v := (-1)) hx hb hown (hw _ k_413) d_M_part_17 ?_
    exact cx_lret hx hb hr hlocks hK hP hD hS d_M_part_20 (rfl) (rfl)
  · have c_6 := r_6
    refine lv_iload_n hx hb d_M_part_9 rfl (lv_at hl 1 rfl) ?_
    refine lv_aload_n hx hb d_M_part_10 rfl (lv_at hl 0 rfl) ?_
    refine va_get (D := D) (ci := 2) (v := .int (nI cnt)) (C := "BuildDrawerModel") (T := TM) (N := 16) hx hb hw inM hown hK hP 0 rfl rfl 3 (by decide) (hw _ k_306) (fun _ h9 => h9) rfl d_M_part_11 ?_
    refine lv_icmp_lt (tgt := 21) hx hb d_M_part_14 (by decide) (fun r_14 => ?_) (fun r_14 => ?_)
    · have c_14 := r_14
      exact absurd r_14 (bd_ip_no hno hcnt r_6)
    · have c_14 := r_14
      refine lv_ldc2 (v := (-1)) hx hb hown (hw _ k_413) d_M_part_17 ?_
      exact cx_lret hx hb hr hlocks hK hP hD hS d_M_part_20 (rfl) (rfl)
set_option maxHeartbeats 4000000 in
set_option maxRecDepth 100000 in
theorem c_M_say (l : Launch) (G : cx_G) (D : va_G) (K : cx_KT) (sz : Nat) (h0 : Nat) (cd : Int32) (seed : Int64) (w : Int64) (cnt : Nat) (vb : Int32) (pl : Int32) (vs : Int32) (aS : Nat) (aA : Nat) (aB : Nat) (aN : Nat) (aM : Nat) (aL : Nat) (wa : Int32) (Lx : List Nat) (q : Nat) (hL : Lx.length < 2 ^ 30) : Met l y_M_say w_M_say ({ frames := 0, cells := 0, slots := 0, locals := 0 }) (cx_Pc G D (cx_ty K) [(h0, .inr (2, [.int cd, .long seed, .long w, .int (nI cnt), .int vb, .int pl, .int vs, .ref aS, .ref aA, .ref aB, .ref aN, .ref aM, .ref aL, .int wa, .int (bd_ch Lx wa), .int (nI Lx.length)]))] sz [.ref h0, .int (nI q)]) (cx_Qv D (cx_ty K) [(h0, .inr (2, [.int cd, .long seed, .long w, .int (nI cnt), .int vb, .int pl, .int vs, .ref aS, .ref aA, .ref aB, .ref aN, .ref aM, .ref aL, .int wa, .int (bd_ch (Lx ++ [q]) wa), .int (nI (Lx ++ [q]).length)]))] (va_A [(h0, .inr (2, [.int cd, .long seed, .long w, .int (nI cnt), .int vb, .int pl, .int vs, .ref aS, .ref aA, .ref aB, .ref aN, .ref aM, .ref aL, .int wa, .int (bd_ch Lx wa), .int (nI Lx.length)]))] sz)) 0 0 (va_A [(h0, .inr (2, [.int cd, .long seed, .long w, .int (nI cnt), .int vb, .int pl, .int vs, .ref aS, .ref aA, .ref aB, .ref aN, .ref aM, .ref aL, .int wa, .int (bd_ch Lx wa), .int (nI Lx.length)]))] sz) := by
  refine Met.ofW (cc := prog_4_method_19_code) (maxL := 2) (ret := none) (by decide) rfl ?_
  intro p e s m args below meth c s₁ B hml hv
  obtain ⟨rfl, hsz, hP, hK, hD0, hE⟩ := hv
  have hx := B.exec
  have hb := B.bytes
  have hr := B.returns
  have hts := atoms_spec (ws := w_M_say) B.pre
  have hw : ∀ w ∈ cw, w.before _ s = true := fun w h => hts w (List.mem_cons_of_mem _ h)
  have hown : s.vm.findClass "BuildDrawerModel" = some m.cls := findClass_of_methodNamed B.named
  have hlocks := B.notSynchronized
  subst hsz
  have hD := hD0.self (sz := s.heap.size)
  generalize hAe : va_A [(h0, .inr (2, [.int cd, .long seed, .long w, .int (nI cnt), .int vb, .int pl, .int vs, .ref aS, .ref aA, .ref aB, .ref aN, .ref aM, .ref aL, .int wa, .int (bd_ch Lx wa), .int (nI Lx.length)]))] s.heap.size = A at hD hE ⊢
  have hA : ∀ q : Nat, s.heap.size ≤ q → A q := fun q h => by rw [← hAe]; exact Or.inr h
  have hS : va_S A s.heap s.heap [] := va_S.rf
  have hl := lv_entry ([.ref h0, .int (nI q)]) (n := 2) (Nat.le_of_ble_eq_true rfl)
  rw [lg_entry_eq]
  generalize (lg_sl ([.ref h0, .int (nI q)]) ++ List.replicate (2 - (lg_sl ([.ref h0, .int (nI q)])).length) Slot.unset).toArray = ls at hl ⊢
  have hl : lv_has ls 2 [(0, .ref h0), (1, .int (nI q))] := hl
  refine lv_aload_n hx hb d_M_say_0 rfl (lv_at hl 0 rfl) ?_
  refine va_get (D := D) (ci := 2) (v := .int (nI Lx.length)) (C := "BuildDrawerModel") (T := TM) (N := 16) hx hb hw inM hown hK hP 0 rfl rfl 15 (by decide) (hw _ k_318) (fun _ h9 => h9) rfl d_M_say_1 ?_
  refine lv_aload_n hx hb d_M_say_4 rfl (lv_at hl 0 rfl) ?_
  refine va_get (D := D) (ci := 2) (v := .int wa) (C := "BuildDrawerModel") (T := TM) (N := 16) hx hb hw inM hown hK hP 0 rfl rfl 13 (by decide) (hw _ k_316) (fun _ h9 => h9) rfl d_M_say_5 ?_
  refine lv_icmp_ne (tgt := 16) hx hb d_M_say_8 (by decide) (fun r_8 => ?_) (fun r_8 => ?_)
  · have c_8 := r_8
    refine lv_aload_n hx hb d_M_say_16 rfl (lv_at hl 0 rfl) ?_
    refine lv_dup hx hb d_M_say_17 rfl ?_
    refine va_get (D := D) (ci := 2) (v := .int (nI Lx.length)) (C := "BuildDrawerModel") (T := TM) (N := 16) hx hb hw inM hown hK hP 0 rfl rfl 15 (by decide) (hw _ k_318) (fun _ h9 => h9) rfl d_M_say_18 ?_
    refine lv_iconst (v := 1) hx hb d_M_say_21 (by decide) ?_
    refine lv_iadd hx hb d_M_say_22 ?_
    refine cx_ti (y := nI (Lx.length + 1)) (by exact nI_add Lx.length 1) ?_
    refine va_put (D := D) (ci := 2) (v := .int (nI (Lx.length + 1))) (ty := .int) (C := "BuildDrawerModel") (T := TM) (N := 16) hx hb hw inM tyM tyM_ok nmM hown hK hP hD hS 0 rfl rfl 15 (by decide) (hw _ k_318) (fun _ h9 => h9) rfl (by decide +kernel) rfl rfl (Nat.le_of_ble_eq_true rfl) d_M_say_23 (fun H locs hP hD hS => ?_)
    have hP : va_P D vwCl [(h0, .inr (2, [.int cd, .long seed, .long w, .int (nI cnt), .int vb, .int pl, .int vs, .ref aS, .ref aA, .ref aB, .ref aN, .ref aM, .ref aL, .int wa, .int (bd_ch Lx wa), .int (nI (Lx.length + 1))]))] H := hP
    have hD : va_D A [(h0, .inr (2, [.int cd, .long seed, .long w, .int (nI cnt), .int vb, .int pl, .int vs, .ref aS, .ref aA, .ref aB, .ref aN, .ref aM, .ref aL, .int wa, .int (bd_ch Lx wa), .int (nI (Lx.length + 1))]))] := hD
    exact cx_vret hx hb hr hlocks hK hP hD hS d_M_say_26 (by rw [bd_ch_snoc Lx q wa hL, if_neg r_8, List.length_append]; rfl)
  · have c_8 := r_8
    refine lv_aload_n hx hb d_M_say_11 rfl (lv_at hl 0 rfl) ?_
    refine lv_iload_n hx hb d_M_say_12 rfl (lv_at hl 1 rfl) ?_
    refine va_put (D := D) (ci := 2) (v := .int (nI q)) (ty := .int) (C := "BuildDrawerModel") (T := TM) (N := 16) hx hb hw inM tyM tyM_ok nmM hown hK hP hD hS 0 rfl rfl 14 (by decide) (hw _ k_317) (fun _ h9 => h9) rfl (by decide +kernel) rfl rfl (Nat.le_of_ble_eq_true rfl) d_M_say_13 (fun H locs hP hD hS => ?_)
    have hP : va_P D vwCl [(h0, .inr (2, [.int cd, .long seed, .long w, .int (nI cnt), .int vb, .int pl, .int vs, .ref aS, .ref aA, .ref aB, .ref aN, .ref aM, .ref aL, .int wa, .int (nI q), .int (nI Lx.length)]))] H := hP
    have hD : va_D A [(h0, .inr (2, [.int cd, .long seed, .long w, .int (nI cnt), .int vb, .int pl, .int vs, .ref aS, .ref aA, .ref aB, .ref aN, .ref aM, .ref aL, .int wa, .int (nI q), .int (nI Lx.length)]))] := hD
    refine lv_aload_n hx hb d_M_say_16 rfl (lv_at hl 0 rfl) ?_
    refine lv_dup hx hb d_M_say_17 rfl ?_
    refine va_get (D := D) (ci := 2) (v := .int (nI Lx.length)) (C := "BuildDrawerModel") (T := TM) (N := 16) hx hb hw inM hown hK hP 0 rfl rfl 15 (by decide) (hw _ k_318) (fun _ h9 => h9) rfl d_M_say_18 ?_
    refine lv_iconst (v := 1) hx hb d_M_say_21 (by decide) ?_
    refine lv_iadd hx hb d_M_say_22 ?_
    refine cx_ti (y := nI (Lx.length + 1)) (by exact nI_add Lx.length 1) ?_
    refine va_put (D := D) (ci := 2) (v := .int (nI (Lx.length + 1))) (ty := .int) (C := "BuildDrawerModel") (T := TM) (N := 16) hx hb hw inM tyM tyM_ok nmM hown hK hP hD hS 0 rfl rfl 15 (by decide) (hw _ k_318) (fun _ h9 => h9) rfl (by decide +kernel) rfl rfl (Nat.le_of_ble_eq_true rfl) d_M_say_23 (fun H locs hP hD hS => ?_)
    have hP : va_P D vwCl [(h0, .inr (2, [.int cd, .long seed, .long w, .int (nI cnt), .int vb, .int pl, .int vs, .ref aS, .ref aA, .ref aB, .ref aN, .ref aM, .ref aL, .int wa, .int (nI q), .int (nI (Lx.length + 1))]))] H := hP
    have hD : va_D A [(h0, .inr (2, [.int cd, .long seed, .long w, .int (nI cnt), .int vb, .int pl, .int vs, .ref aS, .ref aA, .ref aB, .ref aN, .ref aM, .ref aL, .int wa, .int (nI q), .int (nI (Lx.length + 1))]))] := hD
    exact cx_vret hx hb hr hlocks hK hP hD hS d_M_say_26 (by rw [bd_ch_snoc Lx q wa hL, if_pos r_8, List.length_append]; rfl)
set_option maxHeartbeats 4000000 in
set_option maxRecDepth 100000 in
theorem c_M_sayNumber (l : Launch) (G : cx_G) (D : va_G) (K : cx_KT) (sz : Nat) (h0 : Nat) (cd : Int32) (seed : Int64) (w : Int64) (cnt : Nat) (vb : Int32) (pl : Int32) (vs : Int32) (aS : Nat) (aA : Nat) (aB : Nat) (aN : Nat) (aM : Nat) (aL : Nat) (wa : Int32) (Lx : List Nat) (q : Nat) (hL : Lx.length + 3 < 2 ^ 30) (hq : q < 1000) : Met l y_M_sayNumber w_M_sayNumber ({ frames := 1, cells := 0, slots := 0, locals := 21 }) (cx_Pc G D (cx_ty K) [(h0, .inr (2, [.int cd, .long seed, .long w, .int (nI cnt), .int vb, .int pl, .int vs, .ref aS, .ref aA, .ref aB, .ref aN, .ref aM, .ref aL, .int wa, .int (bd_ch Lx wa), .int (nI Lx.length)]))] sz [.ref h0, .int (nI q)]) (cx_Qv D (cx_ty K) [(h0, .inr (2, [.int cd, .long seed, .long w, .int (nI cnt), .int vb, .int pl, .int vs, .ref aS, .ref aA, .ref aB, .ref aN, .ref aM, .ref aL, .int wa, .int (bd_ch (Lx ++ (bd_dg q)) wa), .int (nI (Lx ++ (bd_dg q)).length)]))] (va_A [(h0, .inr (2, [.int cd, .long seed, .long w, .int (nI cnt), .int vb, .int pl, .int vs, .ref aS, .ref aA, .ref aB, .ref aN, .ref aM, .ref aL, .int wa, .int (bd_ch Lx wa), .int (nI Lx.length)]))] sz)) 0 0 (va_A [(h0, .inr (2, [.int cd, .long seed, .long w, .int (nI cnt), .int vb, .int pl, .int vs, .ref aS, .ref aA, .ref aB, .ref aN, .ref aM, .ref aL, .int wa, .int (bd_ch Lx wa), .int (nI Lx.length)]))] sz) := by
  refine Met.ofW (cc := prog_4_method_20_code) (maxL := 3) (ret := none) (by decide) rfl ?_
  intro p e s m args below meth c s₁ B hml hv
  obtain ⟨rfl, hsz, hP, hK, hD0, hE⟩ := hv
  have hx := B.exec
  have hb := B.bytes
  have hr := B.returns
  have hts := atoms_spec (ws := w_M_sayNumber) B.pre
  have hw : ∀ w ∈ cw, w.before _ s = true := fun w h => hts w (List.mem_cons_of_mem _ h)
  have hown : s.vm.findClass "BuildDrawerModel" = some m.cls := findClass_of_methodNamed B.named
  have hlocks := B.notSynchronized
  subst hsz
  have hD := hD0.self (sz := s.heap.size)
  generalize hAe : va_A [(h0, .inr (2, [.int cd, .long seed, .long w, .int (nI cnt), .int vb, .int pl, .int vs, .ref aS, .ref aA, .ref aB, .ref aN, .ref aM, .ref aL, .int wa, .int (bd_ch Lx wa), .int (nI Lx.length)]))] s.heap.size = A at hD hE ⊢
  have hA : ∀ q : Nat, s.heap.size ≤ q → A q := fun q h => by rw [← hAe]; exact Or.inr h
  have hS : va_S A s.heap s.heap [] := va_S.rf
  have hl := lv_entry ([.ref h0, .int (nI q)]) (n := 3) (Nat.le_of_ble_eq_true rfl)
  rw [lg_entry_eq]
  generalize (lg_sl ([.ref h0, .int (nI q)]) ++ List.replicate (3 - (lg_sl ([.ref h0, .int (nI q)])).length) Slot.unset).toArray = ls at hl ⊢
  have hl : lv_has ls 3 [(0, .ref h0), (1, .int (nI q))] := hl
  refine lv_iconst (v := 1) hx hb d_M_sayNumber_0 (by decide) ?_
  refine lv_istore_n (lv' := [(2, .int 1), (0, .ref h0), (1, .int (nI q))]) hx hb d_M_sayNumber_1 rfl hl (by decide) rfl (fun ls hl => ?_)
  refine lv_iload_n hx hb d_M_sayNumber_2 rfl (lv_at hl 2 rfl) ?_
  refine lv_iload_n hx hb d_M_sayNumber_3 rfl (lv_at hl 0 rfl) ?_
  refine lv_idiv hx hb d_M_sayNumber_4 (by decide) ?_
  refine cx_ti (y := nI (q / 1)) (by exact pk_div (a := q) (d := 1) (by omega) (by omega) (by omega)) ?_
  refine lv_bipush (v := 9) hx hb d_M_sayNumber_5 (by decide) ?_
  refine lv_icmp_le (tgt := 18) hx hb d_M_sayNumber_7 (by decide) (fun r_7 => ?_) (fun r_7 => ?_)
  · have c_7 := (nI_leI (a := (q / 1)) (b := 9) (by omega) (by omega)).mp r_7
    refine lv_iload_n hx hb d_M_sayNumber_18 rfl (lv_at hl 0 rfl) ?_
    refine lv_if_le (tgt := 43) hx hb d_M_sayNumber_19 (by decide) (fun r_19 => ?_) (fun r_19 => ?_)
    · have c_19 := (nI_leI (a := 1) (b := 0) (by omega) (by omega)).mp r_19
      omega
    · have c_19 := mt (nI_leI (a := 1) (b := 0) (by omega) (by omega)).mpr r_19
      refine lv_aload_n hx hb d_M_sayNumber_22 rfl (lv_at hl 1 rfl) ?_
      refine lv_bipush (v := 48) hx hb d_M_sayNumber_23 (by decide) ?_
      refine lv_iload_n hx hb d_M_sayNumber_25 rfl (lv_at hl 2 rfl) ?_
      refine lv_iload_n hx hb d_M_sayNumber_26 rfl (lv_at hl 0 rfl) ?_
      refine lv_idiv hx hb d_M_sayNumber_27 (by decide) ?_
      refine cx_ti (y := nI (q / 1)) (by exact pk_div (a := q) (d := 1) (by omega) (by omega) (by omega)) ?_
      refine lv_bipush (v := 10) hx hb d_M_sayNumber_28 (by decide) ?_
      refine lv_irem hx hb d_M_sayNumber_30 (by decide) ?_
      refine cx_ti (y := nI (q / 1 % 10)) (by exact pk_rem (a := q / 1) (d := 10) (by omega) (by omega) (by omega)) ?_
      refine lv_iadd hx hb d_M_sayNumber_31 ?_
      refine cx_ti (y := nI (48 + q / 1 % 10)) (by exact nI_add 48 (q / 1 % 10)) ?_
      refine cx_cv (wr := []) (wN := [(h0, .inr (2, [.int cd, .long seed, .long w, .int (nI cnt), .int vb, .int pl, .int vs, .ref aS, .ref aA, .ref aB, .ref aN, .ref aM, .ref aL, .int wa, .int (bd_ch (Lx ++ [48 + q / 1 % 10]) wa), .int (nI (Lx ++ [48 + q / 1 % 10]).length)]))]) (va_runV (As := [.int (nI (48 + q / 1 % 10))]) (rest := []) ⟨hx, hb, hml, hown, hw⟩ (c_M_say l G D K s.heap.size h0 cd seed w cnt vb pl vs aS aA aB aN aM aL wa Lx (48 + q / 1 % 10) (by omega)) (cwV 1 hw (cx_gV k_426 k_428 ks_M_say k_3 k_429) rfl rfl rfl (by decide +kernel) ⟨Nat.le_of_ble_eq_true rfl, Nat.le_of_ble_eq_true rfl⟩) (cx_preV (q0 := 0) (ci := 2) hK hP hD hS hA hE rfl rfl [0] rfl rfl (by decide)) rfl rfl hl.1 rfl (lv_room (Nat.le_of_ble_eq_true rfl)) d_M_sayNumber_32 ⟨Nat.le_of_ble_eq_true rfl, Nat.le_of_ble_eq_true rfl⟩) hP hD hS hA [0] [] rfl rfl (by decide) (by decide) [0] rfl rfl (by decide) (fun H locs hP hD hS => ?_)
      refine lv_iload_n hx hb d_M_sayNumber_35 rfl (lv_at hl 0 rfl) ?_
      refine lv_bipush (v := 10) hx hb d_M_sayNumber_36 (by decide) ?_
      refine lv_idiv hx hb d_M_sayNumber_38 (by decide) ?_
      refine cx_ti (y := 0) (by decide) ?_
      refine lv_istore_n (lv' := [(2, .int 0), (0, .ref h0), (1, .int (nI q))]) hx hb d_M_sayNumber_39 rfl hl (by decide) rfl (fun ls hl => ?_)
      refine lv_goto (tgt := 18) hx hb d_M_sayNumber_40 (by decide) ?_
      refine lv_iload_n hx hb d_M_sayNumber_18 rfl (lv_at hl 0 rfl) ?_
      refine lv_if_le (tgt := 43) hx hb d_M_sayNumber_19 (by decide) (fun r_19 => ?_) (fun r_19 => ?_)
      · have c_19 := (nI_leI (a := 0) (b := 0) (by omega) (by omega)).mp r_19
        exact cx_vret hx hb hr hlocks hK hP hD hS d_M_sayNumber_43 (by rw [show Lx ++ bd_dg q = Lx ++ [48 + q / 1 % 10] by rw [bd_dg, if_pos (show q < 100 by omega), if_pos (show q < 10 by omega), Nat.div_one]])
      · have c_19 := mt (nI_leI (a := 0) (b := 0) (by omega) (by omega)).mpr r_19
        omega
  · have c_7 := mt (nI_leI (a := (q / 1)) (b := 9) (by omega) (by omega)).mpr r_7
    refine lv_iload_n hx hb d_M_sayNumber_10 rfl (lv_at hl 0 rfl) ?_
    refine lv_bipush (v := 10) hx hb d_M_sayNumber_11 (by decide) ?_
    refine lv_imul hx hb d_M_sayNumber_13 ?_
    refine cx_ti (y := 10) (by decide) ?_
    refine lv_istore_n (lv' := [(2, .int 10), (0, .ref h0), (1, .int (nI q))]) hx hb d_M_sayNumber_14 rfl hl (by decide) rfl (fun ls hl => ?_)
    refine lv_goto (tgt := 2) hx hb d_M_sayNumber_15 (by decide) ?_
    refine lv_iload_n hx hb d_M_sayNumber_2 rfl (lv_at hl 2 rfl) ?_
    refine lv_iload_n hx hb d_M_sayNumber_3 rfl (lv_at hl 0 rfl) ?_
    refine lv_idiv hx hb d_M_sayNumber_4 (by decide) ?_
    refine cx_ti (y := nI (q / 10)) (by exact pk_div (a := q) (d := 10) (by omega) (by omega) (by omega)) ?_
    refine lv_bipush (v := 9) hx hb d_M_sayNumber_5 (by decide) ?_
    refine lv_icmp_le (tgt := 18) hx hb d_M_sayNumber_7 (by decide) (fun r_7 => ?_) (fun r_7 => ?_)
    · have c_7 := (nI_leI (a := (q / 10)) (b := 9) (by omega) (by omega)).mp r_7
      refine lv_iload_n hx hb d_M_sayNumber_18 rfl (lv_at hl 0 rfl) ?_
      refine lv_if_le (tgt := 43) hx hb d_M_sayNumber_19 (by decide) (fun r_19 => ?_) (fun r_19 => ?_)
      · have c_19 := (nI_leI (a := 10) (b := 0) (by omega) (by omega)).mp r_19
        omega
      · have c_19 := mt (nI_leI (a := 10) (b := 0) (by omega) (by omega)).mpr r_19
        refine lv_aload_n hx hb d_M_sayNumber_22 rfl (lv_at hl 1 rfl) ?_
        refine lv_bipush (v := 48) hx hb d_M_sayNumber_23 (by decide) ?_
        refine lv_iload_n hx hb d_M_sayNumber_25 rfl (lv_at hl 2 rfl) ?_
        refine lv_iload_n hx hb d_M_sayNumber_26 rfl (lv_at hl 0 rfl) ?_
        refine lv_idiv hx hb d_M_sayNumber_27 (by decide) ?_
        refine cx_ti (y := nI (q / 10)) (by exact pk_div (a := q) (d := 10) (by omega) (by omega) (by omega)) ?_
        refine lv_bipush (v := 10) hx hb d_M_sayNumber_28 (by decide) ?_
        refine lv_irem hx hb d_M_sayNumber_30 (by decide) ?_
        refine cx_ti (y := nI (q / 10 % 10)) (by exact pk_rem (a := q / 10) (d := 10) (by omega) (by omega) (by omega)) ?_
        refine lv_iadd hx hb d_M_sayNumber_31 ?_
        refine cx_ti (y := nI (48 + q / 10 % 10)) (by exact nI_add 48 (q / 10 % 10)) ?_
        refine cx_cv (wr := []) (wN := [(h0, .inr (2, [.int cd, .long seed, .long w, .int (nI cnt), .int vb, .int pl, .int vs, .ref aS, .ref aA, .ref aB, .ref aN, .ref aM, .ref aL, .int wa, .int (bd_ch (Lx ++ [48 + q / 10 % 10]) wa), .int (nI (Lx ++ [48 + q / 10 % 10]).length)]))]) (va_runV (As := [.int (nI (48 + q / 10 % 10))]) (rest := []) ⟨hx, hb, hml, hown, hw⟩ (c_M_say l G D K s.heap.size h0 cd seed w cnt vb pl vs aS aA aB aN aM aL wa Lx (48 + q / 10 % 10) (by omega)) (cwV 1 hw (cx_gV k_426 k_428 ks_M_say k_3 k_429) rfl rfl rfl (by decide +kernel) ⟨Nat.le_of_ble_eq_true rfl, Nat.le_of_ble_eq_true rfl⟩) (cx_preV (q0 := 0) (ci := 2) hK hP hD hS hA hE rfl rfl [0] rfl rfl (by decide)) rfl rfl hl.1 rfl (lv_room (Nat.le_of_ble_eq_true rfl)) d_M_sayNumber_32 ⟨Nat.le_of_ble_eq_true rfl, Nat.le_of_ble_eq_true rfl⟩) hP hD hS hA [0] [] rfl rfl (by decide) (by decide) [0] rfl rfl (by decide) (fun H locs hP hD hS => ?_)
        refine lv_iload_n hx hb d_M_sayNumber_35 rfl (lv_at hl 0 rfl) ?_
        refine lv_bipush (v := 10) hx hb d_M_sayNumber_36 (by decide) ?_
        refine lv_idiv hx hb d_M_sayNumber_38 (by decide) ?_
        refine cx_ti (y := 1) (by decide) ?_
        refine lv_istore_n (lv' := [(2, .int 1), (0, .ref h0), (1, .int (nI q))]) hx hb d_M_sayNumber_39 rfl hl (by decide) rfl (fun ls hl => ?_)
        refine lv_goto (tgt := 18) hx hb d_M_sayNumber_40 (by decide) ?_
        refine lv_iload_n hx hb d_M_sayNumber_18 rfl (lv_at hl 0 rfl) ?_
        refine lv_if_le (tgt := 43) hx hb d_M_sayNumber_19 (by decide) (fun r_19 => ?_) (fun r_19 => ?_)
        · have c_19 := (nI_leI (a := 1) (b := 0) (by omega) (by omega)).mp r_19
          omega
        · have c_19 := mt (nI_leI (a := 1) (b := 0) (by omega) (by omega)).mpr r_19
          refine lv_aload_n hx hb d_M_sayNumber_22 rfl (lv_at hl 1 rfl) ?_
          refine lv_bipush (v := 48) hx hb d_M_sayNumber_23 (by decide) ?_
          refine lv_iload_n hx hb d_M_sayNumber_25 rfl (lv_at hl 2 rfl) ?_
          refine lv_iload_n hx hb d_M_sayNumber_26 rfl (lv_at hl 0 rfl) ?_
          refine lv_idiv hx hb d_M_sayNumber_27 (by decide) ?_
          refine cx_ti (y := nI (q / 1)) (by exact pk_div (a := q) (d := 1) (by omega) (by omega) (by omega)) ?_
          refine lv_bipush (v := 10) hx hb d_M_sayNumber_28 (by decide) ?_
          refine lv_irem hx hb d_M_sayNumber_30 (by decide) ?_
          refine cx_ti (y := nI (q / 1 % 10)) (by exact pk_rem (a := q / 1) (d := 10) (by omega) (by omega) (by omega)) ?_
          refine lv_iadd hx hb d_M_sayNumber_31 ?_
          refine cx_ti (y := nI (48 + q / 1 % 10)) (by exact nI_add 48 (q / 1 % 10)) ?_
          refine cx_cv (wr := []) (wN := [(h0, .inr (2, [.int cd, .long seed, .long w, .int (nI cnt), .int vb, .int pl, .int vs, .ref aS, .ref aA, .ref aB, .ref aN, .ref aM, .ref aL, .int wa, .int (bd_ch (Lx ++ [48 + q / 10 % 10] ++ [48 + q / 1 % 10]) wa), .int (nI (Lx ++ [48 + q / 10 % 10] ++ [48 + q / 1 % 10]).length)]))]) (va_runV (As := [.int (nI (48 + q / 1 % 10))]) (rest := []) ⟨hx, hb, hml, hown, hw⟩ (c_M_say l G D K H.size h0 cd seed w cnt vb pl vs aS aA aB aN aM aL wa (Lx ++ [48 + q / 10 % 10]) (48 + q / 1 % 10) (by simp only [List.length_append, List.length_cons, List.length_nil]; omega)) (cwV 1 hw (cx_gV k_426 k_428 ks_M_say k_3 k_429) rfl rfl rfl (by decide +kernel) ⟨Nat.le_of_ble_eq_true rfl, Nat.le_of_ble_eq_true rfl⟩) (cx_preV (q0 := 0) (ci := 2) hK hP hD hS hA hE rfl rfl [0] rfl rfl (by decide)) rfl rfl hl.1 rfl (lv_room (Nat.le_of_ble_eq_true rfl)) d_M_sayNumber_32 ⟨Nat.le_of_ble_eq_true rfl, Nat.le_of_ble_eq_true rfl⟩) hP hD hS hA [0] [] rfl rfl (by decide) (by decide) [0] rfl rfl (by decide) (fun H locs hP hD hS => ?_)
          refine lv_iload_n hx hb d_M_sayNumber_35 rfl (lv_at hl 0 rfl) ?_
          refine lv_bipush (v := 10) hx hb d_M_sayNumber_36 (by decide) ?_
          refine lv_idiv hx hb d_M_sayNumber_38 (by decide) ?_
          refine cx_ti (y := 0) (by decide) ?_
          refine lv_istore_n (lv' := [(2, .int 0), (0, .ref h0), (1, .int (nI q))]) hx hb d_M_sayNumber_39 rfl hl (by decide) rfl (fun ls hl => ?_)
          refine lv_goto (tgt := 18) hx hb d_M_sayNumber_40 (by decide) ?_
          refine lv_iload_n hx hb d_M_sayNumber_18 rfl (lv_at hl 0 rfl) ?_
          refine lv_if_le (tgt := 43) hx hb d_M_sayNumber_19 (by decide) (fun r_19 => ?_) (fun r_19 => ?_)
          · have c_19 := (nI_leI (a := 0) (b := 0) (by omega) (by omega)).mp r_19
            exact cx_vret hx hb hr hlocks hK hP hD hS d_M_sayNumber_43 (by rw [show Lx ++ bd_dg q = Lx ++ [48 + q / 10 % 10] ++ [48 + q / 1 % 10] by rw [bd_dg, if_pos (show q < 100 by omega), if_neg (show ¬ q < 10 by omega), Nat.div_one, ← List.append_assoc]])
          · have c_19 := mt (nI_leI (a := 0) (b := 0) (by omega) (by omega)).mpr r_19
            omega
    · have c_7 := mt (nI_leI (a := (q / 10)) (b := 9) (by omega) (by omega)).mpr r_7
      refine lv_iload_n hx hb d_M_sayNumber_10 rfl (lv_at hl 0 rfl) ?_
      refine lv_bipush (v := 10) hx hb d_M_sayNumber_11 (by decide) ?_
      refine lv_imul hx hb d_M_sayNumber_13 ?_
      refine cx_ti (y := 100) (by decide) ?_
      refine lv_istore_n (lv' := [(2, .int 100), (0, .ref h0), (1, .int (nI q))]) hx hb d_M_sayNumber_14 rfl hl (by decide) rfl (fun ls hl => ?_)
      refine lv_goto (tgt := 2) hx hb d_M_sayNumber_15 (by decide) ?_
      refine lv_iload_n hx hb d_M_sayNumber_2 rfl (lv_at hl 2 rfl) ?_
      refine lv_iload_n hx hb d_M_sayNumber_3 rfl (lv_at hl 0 rfl) ?_
      refine lv_idiv hx hb d_M_sayNumber_4 (by decide) ?_
      refine cx_ti (y := nI (q / 100)) (by exact pk_div (a := q) (d := 100) (by omega) (by omega) (by omega)) ?_
      refine lv_bipush (v := 9) hx hb d_M_sayNumber_5 (by decide) ?_
      refine lv_icmp_le (tgt := 18) hx hb d_M_sayNumber_7 (by decide) (fun r_7 => ?_) (fun r_7 => ?_)
      · have c_7 := (nI_leI (a := (q / 100)) (b := 9) (by omega) (by omega)).mp r_7
        refine lv_iload_n hx hb d_M_sayNumber_18 rfl (lv_at hl 0 rfl) ?_
        refine lv_if_le (tgt := 43) hx hb d_M_sayNumber_19 (by decide) (fun r_19 => ?_) (fun r_19 => ?_)
        · have c_19 := (nI_leI (a := 100) (b := 0) (by omega) (by omega)).mp r_19
          omega
        · have c_19 := mt (nI_leI (a := 100) (b := 0) (by omega) (by omega)).mpr r_19
          refine lv_aload_n hx hb d_M_sayNumber_22 rfl (lv_at hl 1 rfl) ?_
          refine lv_bipush (v := 48) hx hb d_M_sayNumber_23 (by decide) ?_
          refine lv_iload_n hx hb d_M_sayNumber_25 rfl (lv_at hl 2 rfl) ?_
          refine lv_iload_n hx hb d_M_sayNumber_26 rfl (lv_at hl 0 rfl) ?_
          refine lv_idiv hx hb d_M_sayNumber_27 (by decide) ?_
          refine cx_ti (y := nI (q / 100)) (by exact pk_div (a := q) (d := 100) (by omega) (by omega) (by omega)) ?_
          refine lv_bipush (v := 10) hx hb d_M_sayNumber_28 (by decide) ?_
          refine lv_irem hx hb d_M_sayNumber_30 (by decide) ?_
          refine cx_ti (y := nI (q / 100 % 10)) (by exact pk_rem (a := q / 100) (d := 10) (by omega) (by omega) (by omega)) ?_
          refine lv_iadd hx hb d_M_sayNumber_31 ?_
          refine cx_ti (y := nI (48 + q / 100 % 10)) (by exact nI_add 48 (q / 100 % 10)) ?_
          refine cx_cv (wr := []) (wN := [(h0, .inr (2, [.int cd, .long seed, .long w, .int (nI cnt), .int vb, .int pl, .int vs, .ref aS, .ref aA, .ref aB, .ref aN, .ref aM, .ref aL, .int wa, .int (bd_ch (Lx ++ [48 + q / 100 % 10]) wa), .int (nI (Lx ++ [48 + q / 100 % 10]).length)]))]) (va_runV (As := [.int (nI (48 + q / 100 % 10))]) (rest := []) ⟨hx, hb, hml, hown, hw⟩ (c_M_say l G D K s.heap.size h0 cd seed w cnt vb pl vs aS aA aB aN aM aL wa Lx (48 + q / 100 % 10) (by omega)) (cwV 1 hw (cx_gV k_426 k_428 ks_M_say k_3 k_429) rfl rfl rfl (by decide +kernel) ⟨Nat.le_of_ble_eq_true rfl, Nat.le_of_ble_eq_true rfl⟩) (cx_preV (q0 := 0) (ci := 2) hK hP hD hS hA hE rfl rfl [0] rfl rfl (by decide)) rfl rfl hl.1 rfl (lv_room (Nat.le_of_ble_eq_true rfl)) d_M_sayNumber_32 ⟨Nat.le_of_ble_eq_true rfl, Nat.le_of_ble_eq_true rfl⟩) hP hD hS hA [0] [] rfl rfl (by decide) (by decide) [0] rfl rfl (by decide) (fun H locs hP hD hS => ?_)
          refine lv_iload_n hx hb d_M_sayNumber_35 rfl (lv_at hl 0 rfl) ?_
          refine lv_bipush (v := 10) hx hb d_M_sayNumber_36 (by decide) ?_
          refine lv_idiv hx hb d_M_sayNumber_38 (by decide) ?_
          refine cx_ti (y := 10) (by decide) ?_
          refine lv_istore_n (lv' := [(2, .int 10), (0, .ref h0), (1, .int (nI q))]) hx hb d_M_sayNumber_39 rfl hl (by decide) rfl (fun ls hl => ?_)
          refine lv_goto (tgt := 18) hx hb d_M_sayNumber_40 (by decide) ?_
          refine lv_iload_n hx hb d_M_sayNumber_18 rfl (lv_at hl 0 rfl) ?_
          refine lv_if_le (tgt := 43) hx hb d_M_sayNumber_19 (by decide) (fun r_19 => ?_) (fun r_19 => ?_)
          · have c_19 := (nI_leI (a := 10) (b := 0) (by omega) (by omega)).mp r_19
            omega
          · have c_19 := mt (nI_leI (a := 10) (b := 0) (by omega) (by omega)).mpr r_19
            refine lv_aload_n hx hb d_M_sayNumber_22 rfl (lv_at hl 1 rfl) ?_
            refine lv_bipush (v := 48) hx hb d_M_sayNumber_23 (by decide) ?_
            refine lv_iload_n hx hb d_M_sayNumber_25 rfl (lv_at hl 2 rfl) ?_
            refine lv_iload_n hx hb d_M_sayNumber_26 rfl (lv_at hl 0 rfl) ?_
            refine lv_idiv hx hb d_M_sayNumber_27 (by decide) ?_
            refine cx_ti (y := nI (q / 10)) (by exact pk_div (a := q) (d := 10) (by omega) (by omega) (by omega)) ?_
            refine lv_bipush (v := 10) hx hb d_M_sayNumber_28 (by decide) ?_
            refine lv_irem hx hb d_M_sayNumber_30 (by decide) ?_
            refine cx_ti (y := nI (q / 10 % 10)) (by exact pk_rem (a := q / 10) (d := 10) (by omega) (by omega) (by omega)) ?_
            refine lv_iadd hx hb d_M_sayNumber_31 ?_
            refine cx_ti (y := nI (48 + q / 10 % 10)) (by exact nI_add 48 (q / 10 % 10)) ?_
            refine cx_cv (wr := []) (wN := [(h0, .inr (2, [.int cd, .long seed, .long w, .int (nI cnt), .int vb, .int pl, .int vs, .ref aS, .ref aA, .ref aB, .ref aN, .ref aM, .ref aL, .int wa, .int (bd_ch (Lx ++ [48 + q / 100 % 10] ++ [48 + q / 10 % 10]) wa), .int (nI (Lx ++ [48 + q / 100 % 10] ++ [48 + q / 10 % 10]).length)]))]) (va_runV (As := [.int (nI (48 + q / 10 % 10))]) (rest := []) ⟨hx, hb, hml, hown, hw⟩ (c_M_say l G D K H.size h0 cd seed w cnt vb pl vs aS aA aB aN aM aL wa (Lx ++ [48 + q / 100 % 10]) (48 + q / 10 % 10) (by simp only [List.length_append, List.length_cons, List.length_nil]; omega)) (cwV 1 hw (cx_gV k_426 k_428 ks_M_say k_3 k_429) rfl rfl rfl (by decide +kernel) ⟨Nat.le_of_ble_eq_true rfl, Nat.le_of_ble_eq_true rfl⟩) (cx_preV (q0 := 0) (ci := 2) hK hP hD hS hA hE rfl rfl [0] rfl rfl (by decide)) rfl rfl hl.1 rfl (lv_room (Nat.le_of_ble_eq_true rfl)) d_M_sayNumber_32 ⟨Nat.le_of_ble_eq_true rfl, Nat.le_of_ble_eq_true rfl⟩) hP hD hS hA [0] [] rfl rfl (by decide) (by decide) [0] rfl rfl (by decide) (fun H locs hP hD hS => ?_)
            refine lv_iload_n hx hb d_M_sayNumber_35 rfl (lv_at hl 0 rfl) ?_
            refine lv_bipush (v := 10) hx hb d_M_sayNumber_36 (by decide) ?_
            refine lv_idiv hx hb d_M_sayNumber_38 (by decide) ?_
            refine cx_ti (y := 1) (by decide) ?_
            refine lv_istore_n (lv' := [(2, .int 1), (0, .ref h0), (1, .int (nI q))]) hx hb d_M_sayNumber_39 rfl hl (by decide) rfl (fun ls hl => ?_)
            refine lv_goto (tgt := 18) hx hb d_M_sayNumber_40 (by decide) ?_
            refine lv_iload_n hx hb d_M_sayNumber_18 rfl (lv_at hl 0 rfl) ?_
            refine lv_if_le (tgt := 43) hx hb d_M_sayNumber_19 (by decide) (fun r_19 => ?_) (fun r_19 => ?_)
            · have c_19 := (nI_leI (a := 1) (b := 0) (by omega) (by omega)).mp r_19
              omega
            · have c_19 := mt (nI_leI (a := 1) (b := 0) (by omega) (by omega)).mpr r_19
              refine lv_aload_n hx hb d_M_sayNumber_22 rfl (lv_at hl 1 rfl) ?_
              refine lv_bipush (v := 48) hx hb d_M_sayNumber_23 (by decide) ?_
              refine lv_iload_n hx hb d_M_sayNumber_25 rfl (lv_at hl 2 rfl) ?_
              refine lv_iload_n hx hb d_M_sayNumber_26 rfl (lv_at hl 0 rfl) ?_
              refine lv_idiv hx hb d_M_sayNumber_27 (by decide) ?_
              refine cx_ti (y := nI (q / 1)) (by exact pk_div (a := q) (d := 1) (by omega) (by omega) (by omega)) ?_
              refine lv_bipush (v := 10) hx hb d_M_sayNumber_28 (by decide) ?_
              refine lv_irem hx hb d_M_sayNumber_30 (by decide) ?_
              refine cx_ti (y := nI (q / 1 % 10)) (by exact pk_rem (a := q / 1) (d := 10) (by omega) (by omega) (by omega)) ?_
              refine lv_iadd hx hb d_M_sayNumber_31 ?_
              refine cx_ti (y := nI (48 + q / 1 % 10)) (by exact nI_add 48 (q / 1 % 10)) ?_
              refine cx_cv (wr := []) (wN := [(h0, .inr (2, [.int cd, .long seed, .long w, .int (nI cnt), .int vb, .int pl, .int vs, .ref aS, .ref aA, .ref aB, .ref aN, .ref aM, .ref aL, .int wa, .int (bd_ch (Lx ++ [48 + q / 100 % 10] ++ [48 + q / 10 % 10] ++ [48 + q / 1 % 10]) wa), .int (nI (Lx ++ [48 + q / 100 % 10] ++ [48 + q / 10 % 10] ++ [48 + q / 1 % 10]).length)]))]) (va_runV (As := [.int (nI (48 + q / 1 % 10))]) (rest := []) ⟨hx, hb, hml, hown, hw⟩ (c_M_say l G D K H.size h0 cd seed w cnt vb pl vs aS aA aB aN aM aL wa (Lx ++ [48 + q / 100 % 10] ++ [48 + q / 10 % 10]) (48 + q / 1 % 10) (by simp only [List.length_append, List.length_cons, List.length_nil]; omega)) (cwV 1 hw (cx_gV k_426 k_428 ks_M_say k_3 k_429) rfl rfl rfl (by decide +kernel) ⟨Nat.le_of_ble_eq_true rfl, Nat.le_of_ble_eq_true rfl⟩) (cx_preV (q0 := 0) (ci := 2) hK hP hD hS hA hE rfl rfl [0] rfl rfl (by decide)) rfl rfl hl.1 rfl (lv_room (Nat.le_of_ble_eq_true rfl)) d_M_sayNumber_32 ⟨Nat.le_of_ble_eq_true rfl, Nat.le_of_ble_eq_true rfl⟩) hP hD hS hA [0] [] rfl rfl (by decide) (by decide) [0] rfl rfl (by decide) (fun H locs hP hD hS => ?_)
              refine lv_iload_n hx hb d_M_sayNumber_35 rfl (lv_at hl 0 rfl) ?_
              refine lv_bipush (v := 10) hx hb d_M_sayNumber_36 (by decide) ?_
              refine lv_idiv hx hb d_M_sayNumber_38 (by decide) ?_
              refine cx_ti (y := 0) (by decide) ?_
              refine lv_istore_n (lv' := [(2, .int 0), (0, .ref h0), (1, .int (nI q))]) hx hb d_M_sayNumber_39 rfl hl (by decide) rfl (fun ls hl => ?_)
              refine lv_goto (tgt := 18) hx hb d_M_sayNumber_40 (by decide) ?_
              refine lv_iload_n hx hb d_M_sayNumber_18 rfl (lv_at hl 0 rfl) ?_
              refine lv_if_le (tgt := 43) hx hb d_M_sayNumber_19 (by decide) (fun r_19 => ?_) (fun r_19 => ?_)
              · have c_19 := (nI_leI (a := 0) (b := 0) (by omega) (by omega)).mp r_19
                exact cx_vret hx hb hr hlocks hK hP hD hS d_M_sayNumber_43 (by rw [show Lx ++ bd_dg q = Lx ++ [48 + q / 100 % 10] ++ [48 + q / 10 % 10] ++ [48 + q / 1 % 10] by rw [bd_dg, if_neg (show ¬ q < 100 by omega), Nat.div_one, Nat.mod_eq_of_lt (show q / 100 < 10 by omega), ← List.append_assoc, ← List.append_assoc]])
              · have c_19 := mt (nI_leI (a := 0) (b := 0) (by omega) (by omega)).mpr r_19
                omega
      · have c_7 := mt (nI_leI (a := (q / 100)) (b := 9) (by omega) (by omega)).mpr r_7
        omega
set_option maxHeartbeats 4000000 in
set_option maxRecDepth 100000 in
theorem c_M_letterOf (l : Launch) (G : cx_G) (D : va_G) (K : cx_KT) (sz : Nat) (k : Nat) (hk : k < 8) : Met l y_M_letterOf w_M_letterOf ({ frames := 0, cells := 0, slots := 0, locals := 0 }) (cx_Pc G D (cx_ty K) [] sz [.int (nI k)]) (cx_Qi (nI (bd_ltN k)) D (cx_ty K) [] (va_A [] sz)) 0 0 (va_A [] sz) := by
  refine Met.ofW (cc := prog_4_method_21_code) (maxL := 1) (ret := (some .int)) (by decide) rfl ?_
  intro p e s m args below meth c s₁ B hml hv
  obtain ⟨rfl, hsz, hP, hK, hD0, hE⟩ := hv
  have hx := B.exec
  have hb := B.bytes
  have hr := B.returns
  have hts := atoms_spec (ws := w_M_letterOf) B.pre
  have hw : ∀ w ∈ cw, w.before _ s = true := fun w h => hts w (List.mem_cons_of_mem _ h)
  have hown : s.vm.findClass "BuildDrawerModel" = some m.cls := findClass_of_methodNamed B.named
  have hlocks := B.notSynchronized
  subst hsz
  have hD := hD0.self (sz := s.heap.size)
  generalize hAe : va_A [] s.heap.size = A at hD hE ⊢
  have hA : ∀ q : Nat, s.heap.size ≤ q → A q := fun q h => by rw [← hAe]; exact Or.inr h
  have hS : va_S A s.heap s.heap [] := va_S.rf
  have hl := lv_entry ([.int (nI k)]) (n := 1) (Nat.le_of_ble_eq_true rfl)
  rw [lg_entry_eq]
  generalize (lg_sl ([.int (nI k)]) ++ List.replicate (1 - (lg_sl ([.int (nI k)])).length) Slot.unset).toArray = ls at hl ⊢
  have hl : lv_has ls 1 [(0, .int (nI k))] := hl
  refine lv_iload_n hx hb d_M_letterOf_0 rfl (lv_at hl 0 rfl) ?_
  by_cases z_0 : nI k = 0
  · refine lv_tableIn (tgt := 44) (off := 43) hx hb d_M_letterOf_1 (by rw [z_0]; decide) (by rw [z_0]; decide) (by rw [z_0]; rfl) (by decide) ?_
    refine lv_bipush (v := 70) hx hb d_M_letterOf_44 (by decide) ?_
    exact cx_iret hx hb hr hlocks hK hP hD hS d_M_letterOf_46 (by rw [bd_keq (j := 0) hk (by omega) z_0]; rfl) (rfl)
  by_cases z_1 : nI k = 1
  · refine lv_tableIn (tgt := 47) (off := 46) hx hb d_M_letterOf_1 (by rw [z_1]; decide) (by rw [z_1]; decide) (by rw [z_1]; rfl) (by decide) ?_
    refine lv_bipush (v := 84) hx hb d_M_letterOf_47 (by decide) ?_
    exact cx_iret hx hb hr hlocks hK hP hD hS d_M_letterOf_49 (by rw [bd_keq (j := 1) hk (by omega) z_1]; rfl) (rfl)
  by_cases z_2 : nI k = 2
  · refine lv_tableIn (tgt := 50) (off := 49) hx hb d_M_letterOf_1 (by rw [z_2]; decide) (by rw [z_2]; decide) (by rw [z_2]; rfl) (by decide) ?_
    refine lv_bipush (v := 80) hx hb d_M_letterOf_50 (by decide) ?_
    exact cx_iret hx hb hr hlocks hK hP hD hS d_M_letterOf_52 (by rw [bd_keq (j := 2) hk (by omega) z_2]; rfl) (rfl)
  by_cases z_3 : nI k = 3
  · refine lv_tableIn (tgt := 53) (off := 52) hx hb d_M_letterOf_1 (by rw [z_3]; decide) (by rw [z_3]; decide) (by rw [z_3]; rfl) (by decide) ?_
    refine lv_bipush (v := 82) hx hb d_M_letterOf_53 (by decide) ?_
    exact cx_iret hx hb hr hlocks hK hP hD hS d_M_letterOf_55 (by rw [bd_keq (j := 3) hk (by omega) z_3]; rfl) (rfl)
  by_cases z_4 : nI k = 4
  · refine lv_tableIn (tgt := 56) (off := 55) hx hb d_M_letterOf_1 (by rw [z_4]; decide) (by rw [z_4]; decide) (by rw [z_4]; rfl) (by decide) ?_
    refine lv_bipush (v := 83) hx hb d_M_letterOf_56 (by decide) ?_
    exact cx_iret hx hb hr hlocks hK hP hD hS d_M_letterOf_58 (by rw [bd_keq (j := 4) hk (by omega) z_4]; rfl) (rfl)
  by_cases z_5 : nI k = 5
  · refine lv_tableIn (tgt := 59) (off := 58) hx hb d_M_letterOf_1 (by rw [z_5]; decide) (by rw [z_5]; decide) (by rw [z_5]; rfl) (by decide) ?_
    refine lv_bipush (v := 67) hx hb d_M_letterOf_59 (by decide) ?_
    exact cx_iret hx hb hr hlocks hK hP hD hS d_M_letterOf_61 (by rw [bd_keq (j := 5) hk (by omega) z_5]; rfl) (rfl)
  by_cases z_6 : nI k = 6
  · refine lv_tableIn (tgt := 62) (off := 61) hx hb d_M_letterOf_1 (by rw [z_6]; decide) (by rw [z_6]; decide) (by rw [z_6]; rfl) (by decide) ?_
    refine lv_bipush (v := 76) hx hb d_M_letterOf_62 (by decide) ?_
    exact cx_iret hx hb hr hlocks hK hP hD hS d_M_letterOf_64 (by rw [bd_keq (j := 6) hk (by omega) z_6]; rfl) (rfl)
  refine lv_tableOut (tgt := 65) hx hb d_M_letterOf_1 (cx_out7 z_0 z_1 z_2 z_3 z_4 z_5 z_6) (by decide) ?_
  refine lv_bipush (v := 86) hx hb d_M_letterOf_65 (by decide) ?_
  exact cx_iret hx hb hr hlocks hK hP hD hS d_M_letterOf_67 (by rw [bd_k7 hk z_0 z_1 z_2 z_3 z_4 z_5 z_6]; rfl) (rfl)
set_option maxHeartbeats 4000000 in
set_option maxRecDepth 100000 in
theorem c_M_letter (l : Launch) (G : cx_G) (D : va_G) (K : cx_KT) (sz : Nat) (h0 : Nat) (cd : Int32) (seed : Int64) (w : Int64) (cnt : Nat) (vb : Int32) (pl : Int32) (vs : Int32) (aS : Nat) (aA : Nat) (aB : Nat) (aN : Nat) (aM : Nat) (aL : Nat) (wa : Int32) (fo : Int32) (se : Int32) (fS : Nat → Int32) (fA : Nat → Int32) (fB : Nat → Int32) (fN : Nat → Int32) (fL : Nat → Int32) (i : Int32) (hcnt : cnt ≤ 62) (hok : ∀ j, j < cnt → bd_ok (fS j) (fA j) (fB j) (fN j)) : Met l y_M_letter w_M_letter ({ frames := 2, cells := 0, slots := 0, locals := 43 }) (cx_Pc G D (cx_ty K) [(h0, .inr (2, [.int cd, .long seed, .long w, .int (nI cnt), .int vb, .int pl, .int vs, .ref aS, .ref aA, .ref aB, .ref aN, .ref aM, .ref aL, .int wa, .int fo, .int se])), (aS, .inl (K.1, 124, .inl fS)), (aA, .inl (K.1, 124, .inl fA)), (aB, .inl (K.1, 124, .inl fB)), (aN, .inl (K.1, 124, .inl fN)), (aL, .inl (K.2.1, 62, .inl fL))] sz [.ref h0, .int i]) (cx_Qi (bd_ch (bd_tx fS fA fB fN fL cnt) i) D (cx_ty K) [(h0, .inr (2, [.int 0, .long seed, .long w, .int (nI cnt), .int vb, .int pl, .int vs, .ref aS, .ref aA, .ref aB, .ref aN, .ref aM, .ref aL, .int i, .int (bd_ch (bd_tx fS fA fB fN fL cnt) i), .int (nI (bd_tx fS fA fB fN fL cnt).length)])), (aS, .inl (K.1, 124, .inl fS)), (aA, .inl (K.1, 124, .inl fA)), (aB, .inl (K.1, 124, .inl fB)), (aN, .inl (K.1, 124, .inl fN)), (aL, .inl (K.2.1, 62, .inl fL))] (va_A [(h0, .inr (2, [.int cd, .long seed, .long w, .int (nI cnt), .int vb, .int pl, .int vs, .ref aS, .ref aA, .ref aB, .ref aN, .ref aM, .ref aL, .int wa, .int fo, .int se])), (aS, .inl (K.1, 124, .inl fS)), (aA, .inl (K.1, 124, .inl fA)), (aB, .inl (K.1, 124, .inl fB)), (aN, .inl (K.1, 124, .inl fN)), (aL, .inl (K.2.1, 62, .inl fL))] sz)) 0 0 (va_A [(h0, .inr (2, [.int cd, .long seed, .long w, .int (nI cnt), .int vb, .int pl, .int vs, .ref aS, .ref aA, .ref aB, .ref aN, .ref aM, .ref aL, .int wa, .int fo, .int se])), (aS, .inl (K.1, 124, .inl fS)), (aA, .inl (K.1, 124, .inl fA)), (aB, .inl (K.1, 124, .inl fB)), (aN, .inl (K.1, 124, .inl fN)), (aL, .inl (K.2.1, 62, .inl fL))] sz) := by
  refine Met.ofW (cc := prog_4_method_22_code) (maxL := 3) (ret := (some .int)) (by decide) rfl ?_
  intro p e s m args below meth c s₁ B hml hv
  obtain ⟨rfl, hsz, hP, hK, hD0, hE⟩ := hv
  have hx := B.exec
  have hb := B.bytes
  have hr := B.returns
  have hts := atoms_spec (ws := w_M_letter) B.pre
  have hw : ∀ w ∈ cw, w.before _ s = true := fun w h => hts w (List.mem_cons_of_mem _ h)
  have hown : s.vm.findClass "BuildDrawerModel" = some m.cls := findClass_of_methodNamed B.named
  have hlocks := B.notSynchronized
  subst hsz
  have hD := hD0.self (sz := s.heap.size)
  generalize hAe : va_A [(h0, .inr (2, [.int cd, .long seed, .long w, .int (nI cnt), .int vb, .int pl, .int vs, .ref aS, .ref aA, .ref aB, .ref aN, .ref aM, .ref aL, .int wa, .int fo, .int se])), (aS, .inl (K.1, 124, .inl fS)), (aA, .inl (K.1, 124, .inl fA)), (aB, .inl (K.1, 124, .inl fB)), (aN, .inl (K.1, 124, .inl fN)), (aL, .inl (K.2.1, 62, .inl fL))] s.heap.size = A at hD hE ⊢
  have hA : ∀ q : Nat, s.heap.size ≤ q → A q := fun q h => by rw [← hAe]; exact Or.inr h
  have hS : va_S A s.heap s.heap [] := va_S.rf
  have hl := lv_entry ([.ref h0, .int i]) (n := 3) (Nat.le_of_ble_eq_true rfl)
  rw [lg_entry_eq]
  generalize (lg_sl ([.ref h0, .int i]) ++ List.replicate (3 - (lg_sl ([.ref h0, .int i])).length) Slot.unset).toArray = ls at hl ⊢
  have hl : lv_has ls 3 [(0, .ref h0), (1, .int i)] := hl
  refine lv_aload_n hx hb d_M_letter_0 rfl (lv_at hl 0 rfl) ?_
  refine lv_iconst (v := 0) hx hb d_M_letter_1 (by decide) ?_
  refine va_put (D := D) (ci := 2) (v := .int 0) (ty := .int) (C := "BuildDrawerModel") (T := TM) (N := 16) hx hb hw inM tyM tyM_ok nmM hown hK hP hD hS 0 rfl rfl 0 (by decide) (hw _ k_303) (fun _ h9 => h9) rfl (by decide +kernel) rfl rfl (Nat.le_of_ble_eq_true rfl) d_M_letter_2 (fun H locs hP hD hS => ?_)
  have hP : va_P D vwCl [(h0, .inr (2, [.int 0, .long seed, .long w, .int (nI cnt), .int vb, .int pl, .int vs, .ref aS, .ref aA, .ref aB, .ref aN, .ref aM, .ref aL, .int wa, .int fo, .int se])), (aS, .inl (K.1, 124, .inl fS)), (aA, .inl (K.1, 124, .inl fA)), (aB, .inl (K.1, 124, .inl fB)), (aN, .inl (K.1, 124, .inl fN)), (aL, .inl (K.2.1, 62, .inl fL))] H := hP
  have hD : va_D A [(h0, .inr (2, [.int 0, .long seed, .long w, .int (nI cnt), .int vb, .int pl, .int vs, .ref aS, .ref aA, .ref aB, .ref aN, .ref aM, .ref aL, .int wa, .int fo, .int se])), (aS, .inl (K.1, 124, .inl fS)), (aA, .inl (K.1, 124, .inl fA)), (aB, .inl (K.1, 124, .inl fB)), (aN, .inl (K.1, 124, .inl fN)), (aL, .inl (K.2.1, 62, .inl fL))] := hD
  refine lv_aload_n hx hb d_M_letter_5 rfl (lv_at hl 0 rfl) ?_
  refine lv_iload_n hx hb d_M_letter_6 rfl (lv_at hl 1 rfl) ?_
  refine va_put (D := D) (ci := 2) (v := .int i) (ty := .int) (C := "BuildDrawerModel") (T := TM) (N := 16) hx hb hw inM tyM tyM_ok nmM hown hK hP hD hS 0 rfl rfl 13 (by decide) (hw _ k_316) (fun _ h9 => h9) rfl (by decide +kernel) rfl rfl (Nat.le_of_ble_eq_true rfl) d_M_letter_7 (fun H locs hP hD hS => ?_)
  have hP : va_P D vwCl [(h0, .inr (2, [.int 0, .long seed, .long w, .int (nI cnt), .int vb, .int pl, .int vs, .ref aS, .ref aA, .ref aB, .ref aN, .ref aM, .ref aL, .int i, .int fo, .int se])), (aS, .inl (K.1, 124, .inl fS)), (aA, .inl (K.1, 124, .inl fA)), (aB, .inl (K.1, 124, .inl fB)), (aN, .inl (K.1, 124, .inl fN)), (aL, .inl (K.2.1, 62, .inl fL))] H := hP
  have hD : va_D A [(h0, .inr (2, [.int 0, .long seed, .long w, .int (nI cnt), .int vb, .int pl, .int vs, .ref aS, .ref aA, .ref aB, .ref aN, .ref aM, .ref aL, .int i, .int fo, .int se])), (aS, .inl (K.1, 124, .inl fS)), (aA, .inl (K.1, 124, .inl fA)), (aB, .inl (K.1, 124, .inl fB)), (aN, .inl (K.1, 124, .inl fN)), (aL, .inl (K.2.1, 62, .inl fL))] := hD
  refine lv_aload_n hx hb d_M_letter_10 rfl (lv_at hl 0 rfl) ?_
  refine lv_iconst (v := (-1)) hx hb d_M_letter_11 (by decide) ?_
  refine va_put (D := D) (ci := 2) (v := .int (-1)) (ty := .int) (C := "BuildDrawerModel") (T := TM) (N := 16) hx hb hw inM tyM tyM_ok nmM hown hK hP hD hS 0 rfl rfl 14 (by decide) (hw _ k_317) (fun _ h9 => h9) rfl (by decide +kernel) rfl rfl (Nat.le_of_ble_eq_true rfl) d_M_letter_12 (fun H locs hP hD hS => ?_)
  have hP : va_P D vwCl [(h0, .inr (2, [.int 0, .long seed, .long w, .int (nI cnt), .int vb, .int pl, .int vs, .ref aS, .ref aA, .ref aB, .ref aN, .ref aM, .ref aL, .int i, .int (-1), .int se])), (aS, .inl (K.1, 124, .inl fS)), (aA, .inl (K.1, 124, .inl fA)), (aB, .inl (K.1, 124, .inl fB)), (aN, .inl (K.1, 124, .inl fN)), (aL, .inl (K.2.1, 62, .inl fL))] H := hP
  have hD : va_D A [(h0, .inr (2, [.int 0, .long seed, .long w, .int (nI cnt), .int vb, .int pl, .int vs, .ref aS, .ref aA, .ref aB, .ref aN, .ref aM, .ref aL, .int i, .int (-1), .int se])), (aS, .inl (K.1, 124, .inl fS)), (aA, .inl (K.1, 124, .inl fA)), (aB, .inl (K.1, 124, .inl fB)), (aN, .inl (K.1, 124, .inl fN)), (aL, .inl (K.2.1, 62, .inl fL))] := hD
  refine lv_aload_n hx hb d_M_letter_15 rfl (lv_at hl 0 rfl) ?_
  refine lv_iconst (v := 0) hx hb d_M_letter_16 (by decide) ?_
  refine va_put (D := D) (ci := 2) (v := .int 0) (ty := .int) (C := "BuildDrawerModel") (T := TM) (N := 16) hx hb hw inM tyM tyM_ok nmM hown hK hP hD hS 0 rfl rfl 15 (by decide) (hw _ k_318) (fun _ h9 => h9) rfl (by decide +kernel) rfl rfl (Nat.le_of_ble_eq_true rfl) d_M_letter_17 (fun H locs hP hD hS => ?_)
  have hP : va_P D vwCl [(h0, .inr (2, [.int 0, .long seed, .long w, .int (nI cnt), .int vb, .int pl, .int vs, .ref aS, .ref aA, .ref aB, .ref aN, .ref aM, .ref aL, .int i, .int (-1), .int 0])), (aS, .inl (K.1, 124, .inl fS)), (aA, .inl (K.1, 124, .inl fA)), (aB, .inl (K.1, 124, .inl fB)), (aN, .inl (K.1, 124, .inl fN)), (aL, .inl (K.2.1, 62, .inl fL))] H := hP
  have hD : va_D A [(h0, .inr (2, [.int 0, .long seed, .long w, .int (nI cnt), .int vb, .int pl, .int vs, .ref aS, .ref aA, .ref aB, .ref aN, .ref aM, .ref aL, .int i, .int (-1), .int 0])), (aS, .inl (K.1, 124, .inl fS)), (aA, .inl (K.1, 124, .inl fA)), (aB, .inl (K.1, 124, .inl fB)), (aN, .inl (K.1, 124, .inl fN)), (aL, .inl (K.2.1, 62, .inl fL))] := hD
  refine lv_iconst (v := 0) hx hb d_M_letter_20 (by decide) ?_
  refine lv_istore_n (lv' := [(2, .int 0), (0, .ref h0), (1, .int i)]) hx hb d_M_letter_21 rfl hl (by decide) rfl (fun ls hl => ?_)
  have hP : va_P D vwCl [(h0, .inr (2, [.int 0, .long seed, .long w, .int (nI cnt), .int vb, .int pl, .int vs, .ref aS, .ref aA, .ref aB, .ref aN, .ref aM, .ref aL, .int i, .int (bd_ch (bd_tx fS fA fB fN fL 0) i), .int (nI (bd_tx fS fA fB fN fL 0).length)])), (aS, .inl (K.1, 124, .inl fS)), (aA, .inl (K.1, 124, .inl fA)), (aB, .inl (K.1, 124, .inl fB)), (aN, .inl (K.1, 124, .inl fN)), (aL, .inl (K.2.1, 62, .inl fL))] H := by rw [show (bd_tx fS fA fB fN fL 0) = [] from rfl, bd_ch_nil]; exact hP
  have hD : va_D A [(h0, .inr (2, [.int 0, .long seed, .long w, .int (nI cnt), .int vb, .int pl, .int vs, .ref aS, .ref aA, .ref aB, .ref aN, .ref aM, .ref aL, .int i, .int (bd_ch (bd_tx fS fA fB fN fL 0) i), .int (nI (bd_tx fS fA fB fN fL 0).length)])), (aS, .inl (K.1, 124, .inl fS)), (aA, .inl (K.1, 124, .inl fA)), (aB, .inl (K.1, 124, .inl fB)), (aN, .inl (K.1, 124, .inl fN)), (aL, .inl (K.2.1, 62, .inl fL))] := by rw [show (bd_tx fS fA fB fN fL 0) = [] from rfl, bd_ch_nil]; exact hD
  refine cx_loop (pc := 22) (st := []) (fun (j : Nat) H locs ls => (j ≤ cnt) ∧ va_P D vwCl [(h0, .inr (2, [.int 0, .long seed, .long w, .int (nI cnt), .int vb, .int pl, .int vs, .ref aS, .ref aA, .ref aB, .ref aN, .ref aM, .ref aL, .int i, .int (bd_ch (bd_tx fS fA fB fN fL j) i), .int (nI (bd_tx fS fA fB fN fL j).length)])), (aS, .inl (K.1, 124, .inl fS)), (aA, .inl (K.1, 124, .inl fA)), (aB, .inl (K.1, 124, .inl fB)), (aN, .inl (K.1, 124, .inl fN)), (aL, .inl (K.2.1, 62, .inl fL))] H ∧ va_D A [(h0, .inr (2, [.int 0, .long seed, .long w, .int (nI cnt), .int vb, .int pl, .int vs, .ref aS, .ref aA, .ref aB, .ref aN, .ref aM, .ref aL, .int i, .int (bd_ch (bd_tx fS fA fB fN fL j) i), .int (nI (bd_tx fS fA fB fN fL j).length)])), (aS, .inl (K.1, 124, .inl fS)), (aA, .inl (K.1, 124, .inl fA)), (aB, .inl (K.1, 124, .inl fB)), (aN, .inl (K.1, 124, .inl fN)), (aL, .inl (K.2.1, 62, .inl fL))] ∧ va_S A s.heap H locs ∧ lv_has ls 3 [(2, .int (nI j)), (1, .int i), (0, .ref h0)]) (fun (j : Nat) => cnt - j) (fun z H locs ls hI ih_22 => ?_) 0 ⟨Nat.zero_le _, hP, hD, hS, lv_sub hl [0, 2, 1] rfl⟩
  obtain ⟨j, rfl⟩ : ∃ y, y = z := ⟨_, rfl⟩
  obtain ⟨hj, hP, hD, hS, hl⟩ := hI
  have hP : va_P D vwCl [(h0, .inr (2, [.int 0, .long seed, .long w, .int (nI cnt), .int vb, .int pl, .int vs, .ref aS, .ref aA, .ref aB, .ref aN, .ref aM, .ref aL, .int i, .int (bd_ch (bd_tx fS fA fB fN fL j) i), .int (nI (bd_tx fS fA fB fN fL j).length)])), (aS, .inl (K.1, 124, .inl fS)), (aA, .inl (K.1, 124, .inl fA)), (aB, .inl (K.1, 124, .inl fB)), (aN, .inl (K.1, 124, .inl fN)), (aL, .inl (K.2.1, 62, .inl fL))] H := hP
  have hD : va_D A [(h0, .inr (2, [.int 0, .long seed, .long w, .int (nI cnt), .int vb, .int pl, .int vs, .ref aS, .ref aA, .ref aB, .ref aN, .ref aM, .ref aL, .int i, .int (bd_ch (bd_tx fS fA fB fN fL j) i), .int (nI (bd_tx fS fA fB fN fL j).length)])), (aS, .inl (K.1, 124, .inl fS)), (aA, .inl (K.1, 124, .inl fA)), (aB, .inl (K.1, 124, .inl fB)), (aN, .inl (K.1, 124, .inl fN)), (aL, .inl (K.2.1, 62, .inl fL))] := hD
  have hl : lv_has ls 3 [(2, .int (nI j)), (1, .int i), (0, .ref h0)] := hl
  refine lv_iload_n hx hb d_M_letter_22 rfl (lv_at hl 0 rfl) ?_
  refine lv_aload_n hx hb d_M_letter_23 rfl (lv_at hl 2 rfl) ?_
  refine va_get (D := D) (ci := 2) (v := .int (nI cnt)) (C := "BuildDrawerModel") (T := TM) (N := 16) hx hb hw inM hown hK hP 0 rfl rfl 3 (by decide) (hw _ k_306) (fun _ h9 => h9) rfl d_M_letter_24 ?_
  refine lv_icmp_ge (tgt := 136) hx hb d_M_letter_27 (by decide) (fun r_27 => ?_) (fun r_27 => ?_)
  · have c_27 := (nI_leI (a := cnt) (b := j) (by omega) (by omega)).mp r_27
    refine lv_aload_n hx hb d_M_letter_136 rfl (lv_at hl 2 rfl) ?_
    refine va_get (D := D) (ci := 2) (v := .int (bd_ch (bd_tx fS fA fB fN fL j) i)) (C := "BuildDrawerModel") (T := TM) (N := 16) hx hb hw inM hown hK hP 0 rfl rfl 14 (by decide) (hw _ k_317) (fun _ h9 => h9) rfl d_M_letter_137 ?_
    exact cx_iret hx hb hr hlocks hK hP hD hS d_M_letter_140 (by rw [show j = cnt by omega]) (by rw [show j = cnt by omega])
  · have c_27 := mt (nI_leI (a := cnt) (b := j) (by omega) (by omega)).mpr r_27
    refine lv_aload_n hx hb d_M_letter_30 rfl (lv_at hl 2 rfl) ?_
    refine va_get (D := D) (ci := 2) (v := .ref aL) (C := "BuildDrawerModel") (T := TM) (N := 16) hx hb hw inM hown hK hP 0 rfl rfl 12 (by decide) (hw _ k_315) (fun _ h9 => h9) rfl d_M_letter_31 ?_
    refine lv_iload_n hx hb d_M_letter_34 rfl (lv_at hl 0 rfl) ?_
    refine va_zald hx hb hK hP 5 1 rfl rfl (vp_in_nI (n := j) (by omega) (by omega)) d_M_letter_35 ?_
    refine cx_ti (y := fL j) (by rw [nI_clamp (by omega)]) ?_
    refine lv_if_ne (tgt := 42) hx hb d_M_letter_36 (by decide) (fun r_36 => ?_) (fun r_36 => ?_)
    · have c_36 := r_36
      have e_i : (bd_tx fS fA fB fN fL (j + 1)) = (bd_tx fS fA fB fN fL j) ++ bd_pt j (fS j) (fA j) (fB j) (fN j) := by rw [bd_tx, if_neg r_36]
      obtain ⟨⟨s9, hs9, hs⟩, ⟨a9, hla, ha9⟩, ⟨b9, hlb, hb9⟩, hn8⟩ := hok j (by omega)
      have hlt_s : s9 < 2 ^ 31 := by omega
      have hlt_a : a9 < 2 ^ 31 := by omega
      have hlt_b : b9 < 2 ^ 31 := by omega
      have hg1 := bd_dg2 (q := j) (by omega)
      have hg2 := bd_dg3 a9
      have hg3 := bd_dg3 b9
      have hg0 := bd_tx_len (fL := fL) (n := j) (by omega) (fun z hz => hok z (by omega))
      refine lv_aload_n hx hb d_M_letter_42 rfl (lv_at hl 2 rfl) ?_
      refine lv_aload_n hx hb d_M_letter_43 rfl (lv_at hl 2 rfl) ?_
      refine va_get (D := D) (ci := 2) (v := .ref aS) (C := "BuildDrawerModel") (T := TM) (N := 16) hx hb hw inM hown hK hP 0 rfl rfl 7 (by decide) (hw _ k_310) (fun _ h9 => h9) rfl d_M_letter_44 ?_
      refine lv_iload_n hx hb d_M_letter_47 rfl (lv_at hl 0 rfl) ?_
      refine va_iald hx hb hK hP 1 0 rfl rfl (vp_in_nI (n := j) (by omega) (by omega)) d_M_letter_48 ?_
      refine cx_ti (y := nI s9) (by rw [nI_clamp (by omega)]; exact hs) ?_
      refine cx_ci (wr := [(h0, .inr (2, [.int 0, .long seed, .long w, .int (nI cnt), .int vb, .int pl, .int vs, .ref aS, .ref aA, .ref aB, .ref aN, .ref aM, .ref aL, .int i, .int (bd_ch (bd_tx fS fA fB fN fL j) i), .int (nI (bd_tx fS fA fB fN fL j).length)])), (aS, .inl (K.1, 124, .inl fS)), (aA, .inl (K.1, 124, .inl fA)), (aB, .inl (K.1, 124, .inl fB)), (aN, .inl (K.1, 124, .inl fN)), (aL, .inl (K.2.1, 62, .inl fL))]) (wN := [(h0, .inr (2, [.int 0, .long seed, .long w, .int (nI cnt), .int vb, .int pl, .int vs, .ref aS, .ref aA, .ref aB, .ref aN, .ref aM, .ref aL, .int i, .int (bd_ch (bd_tx fS fA fB fN fL j) i), .int (nI (bd_tx fS fA fB fN fL j).length)])), (aS, .inl (K.1, 124, .inl fS)), (aA, .inl (K.1, 124, .inl fA)), (aB, .inl (K.1, 124, .inl fB)), (aN, .inl (K.1, 124, .inl fN)), (aL, .inl (K.2.1, 62, .inl fL))]) (va_runS (As := [.int (nI s9)]) (rest := [.ref h0]) ⟨hx, hb, hml, hown, hw⟩ (c_M_letterOf l G D K H.size s9 (by omega)) (va_cwS 1 hw (cx_gS k_423 k_424 k_3 k_425) rfl rfl rfl (by decide +kernel) ⟨Nat.le_of_ble_eq_true rfl, Nat.le_of_ble_eq_true rfl⟩) (cx_pre hK hP hD hS hA hE [] rfl rfl (by decide)) rfl rfl hl.1 rfl (lv_room (Nat.le_of_ble_eq_true rfl)) d_M_letter_49 ⟨Nat.le_of_ble_eq_true rfl, Nat.le_of_ble_eq_true rfl⟩) hP hD hS hA [] [0, 1, 2, 3, 4, 5] rfl rfl (by decide) (by decide) [0, 1, 2, 3, 4, 5] rfl rfl (by decide) (fun H locs hP hD hS => ?_)
      refine cx_cv (wr := [(aS, .inl (K.1, 124, .inl fS)), (aA, .inl (K.1, 124, .inl fA)), (aB, .inl (K.1, 124, .inl fB)), (aN, .inl (K.1, 124, .inl fN)), (aL, .inl (K.2.1, 62, .inl fL))]) (wN := [(h0, .inr (2, [.int 0, .long seed, .long w, .int (nI cnt), .int vb, .int pl, .int vs, .ref aS, .ref aA, .ref aB, .ref aN, .ref aM, .ref aL, .int i, .int (bd_ch ((bd_tx fS fA fB fN fL j) ++ [bd_ltN s9]) i), .int (nI ((bd_tx fS fA fB fN fL j) ++ [bd_ltN s9]).length)])), (aS, .inl (K.1, 124, .inl fS)), (aA, .inl (K.1, 124, .inl fA)), (aB, .inl (K.1, 124, .inl fB)), (aN, .inl (K.1, 124, .inl fN)), (aL, .inl (K.2.1, 62, .inl fL))]) (va_runV (As := [.int (nI (bd_ltN s9))]) (rest := []) ⟨hx, hb, hml, hown, hw⟩ (c_M_say l G D K H.size h0 0 seed w cnt vb pl vs aS aA aB aN aM aL i (bd_tx fS fA fB fN fL j) (bd_ltN s9) (by first | omega | (simp only [List.length_append, List.length_cons, List.length_nil]; omega))) (cwV 1 hw (cx_gV k_426 k_428 ks_M_say k_3 k_429) rfl rfl rfl (by decide +kernel) ⟨Nat.le_of_ble_eq_true rfl, Nat.le_of_ble_eq_true rfl⟩) (cx_preV (q0 := 0) (ci := 2) hK hP hD hS hA hE rfl rfl [0] rfl rfl (by decide)) rfl rfl hl.1 rfl (lv_room (Nat.le_of_ble_eq_true rfl)) d_M_letter_52 ⟨Nat.le_of_ble_eq_true rfl, Nat.le_of_ble_eq_true rfl⟩) hP hD hS hA [0] [1, 2, 3, 4, 5] rfl rfl (by decide) (by decide) [5, 0, 1, 2, 3, 4] rfl rfl (by decide) (fun H locs hP hD hS => ?_)
      refine lv_aload_n hx hb d_M_letter_55 rfl (lv_at hl 2 rfl) ?_
      refine lv_iload_n hx hb d_M_letter_56 rfl (lv_at hl 0 rfl) ?_
      refine cx_cv (wr := [(aS, .inl (K.1, 124, .inl fS)), (aA, .inl (K.1, 124, .inl fA)), (aB, .inl (K.1, 124, .inl fB)), (aN, .inl (K.1, 124, .inl fN)), (aL, .inl (K.2.1, 62, .inl fL))]) (wN := [(h0, .inr (2, [.int 0, .long seed, .long w, .int (nI cnt), .int vb, .int pl, .int vs, .ref aS, .ref aA, .ref aB, .ref aN, .ref aM, .ref aL, .int i, .int (bd_ch ((bd_tx fS fA fB fN fL j) ++ [bd_ltN s9] ++ (bd_dg j)) i), .int (nI ((bd_tx fS fA fB fN fL j) ++ [bd_ltN s9] ++ (bd_dg j)).length)])), (aS, .inl (K.1, 124, .inl fS)), (aA, .inl (K.1, 124, .inl fA)), (aB, .inl (K.1, 124, .inl fB)), (aN, .inl (K.1, 124, .inl fN)), (aL, .inl (K.2.1, 62, .inl fL))]) (va_runV (As := [.int (nI j)]) (rest := []) ⟨hx, hb, hml, hown, hw⟩ (c_M_sayNumber l G D K H.size h0 0 seed w cnt vb pl vs aS aA aB aN aM aL i ((bd_tx fS fA fB fN fL j) ++ [bd_ltN s9]) j (by first | omega | (simp only [List.length_append, List.length_cons, List.length_nil]; omega)) (by omega)) (cwV 1 hw (cx_gV k_430 k_432 ks_M_sayNumber k_3 k_433) rfl rfl rfl (by decide +kernel) ⟨Nat.le_of_ble_eq_true rfl, Nat.le_of_ble_eq_true rfl⟩) (cx_preV (q0 := 0) (ci := 2) hK hP hD hS hA hE rfl rfl [0] rfl rfl (by decide)) rfl rfl hl.1 rfl (lv_room (Nat.le_of_ble_eq_true rfl)) d_M_letter_57 ⟨Nat.le_of_ble_eq_true rfl, Nat.le_of_ble_eq_true rfl⟩) hP hD hS hA [0] [1, 2, 3, 4, 5] rfl rfl (by decide) (by decide) [5, 0, 1, 2, 3, 4] rfl rfl (by decide) (fun H locs hP hD hS => ?_)
      refine lv_aload_n hx hb d_M_letter_60 rfl (lv_at hl 2 rfl) ?_
      refine lv_bipush (v := 40) hx hb d_M_letter_61 (by decide) ?_
      refine cx_cv (wr := [(aS, .inl (K.1, 124, .inl fS)), (aA, .inl (K.1, 124, .inl fA)), (aB, .inl (K.1, 124, .inl fB)), (aN, .inl (K.1, 124, .inl fN)), (aL, .inl (K.2.1, 62, .inl fL))]) (wN := [(h0, .inr (2, [.int 0, .long seed, .long w, .int (nI cnt), .int vb, .int pl, .int vs, .ref aS, .ref aA, .ref aB, .ref aN, .ref aM, .ref aL, .int i, .int (bd_ch ((bd_tx fS fA fB fN fL j) ++ [bd_ltN s9] ++ (bd_dg j) ++ [40]) i), .int (nI ((bd_tx fS fA fB fN fL j) ++ [bd_ltN s9] ++ (bd_dg j) ++ [40]).length)])), (aS, .inl (K.1, 124, .inl fS)), (aA, .inl (K.1, 124, .inl fA)), (aB, .inl (K.1, 124, .inl fB)), (aN, .inl (K.1, 124, .inl fN)), (aL, .inl (K.2.1, 62, .inl fL))]) (va_runV (As := [.int 40]) (rest := []) ⟨hx, hb, hml, hown, hw⟩ (c_M_say l G D K H.size h0 0 seed w cnt vb pl vs aS aA aB aN aM aL i ((bd_tx fS fA fB fN fL j) ++ [bd_ltN s9] ++ (bd_dg j)) 40 (by first | omega | (simp only [List.length_append, List.length_cons, List.length_nil]; omega))) (cwV 1 hw (cx_gV k_426 k_428 ks_M_say k_3 k_429) rfl rfl rfl (by decide +kernel) ⟨Nat.le_of_ble_eq_true rfl, Nat.le_of_ble_eq_true rfl⟩) (cx_preV (q0 := 0) (ci := 2) hK hP hD hS hA hE rfl rfl [0] rfl rfl (by decide)) rfl rfl hl.1 rfl (lv_room (Nat.le_of_ble_eq_true rfl)) d_M_letter_63 ⟨Nat.le_of_ble_eq_true rfl, Nat.le_of_ble_eq_true rfl⟩) hP hD hS hA [0] [1, 2, 3, 4, 5] rfl rfl (by decide) (by decide) [5, 0, 1, 2, 3, 4] rfl rfl (by decide) (fun H locs hP hD hS => ?_)
      refine lv_aload_n hx hb d_M_letter_66 rfl (lv_at hl 2 rfl) ?_
      refine lv_aload_n hx hb d_M_letter_67 rfl (lv_at hl 2 rfl) ?_
      refine va_get (D := D) (ci := 2) (v := .ref aA) (C := "BuildDrawerModel") (T := TM) (N := 16) hx hb hw inM hown hK hP 0 rfl rfl 8 (by decide) (hw _ k_311) (fun _ h9 => h9) rfl d_M_letter_68 ?_
      refine lv_iload_n hx hb d_M_letter_71 rfl (lv_at hl 0 rfl) ?_
      refine va_iald hx hb hK hP 2 0 rfl rfl (vp_in_nI (n := j) (by omega) (by omega)) d_M_letter_72 ?_
      refine cx_ti (y := nI a9) (by rw [nI_clamp (by omega)]; exact ha9) ?_
      refine cx_cv (wr := [(aS, .inl (K.1, 124, .inl fS)), (aA, .inl (K.1, 124, .inl fA)), (aB, .inl (K.1, 124, .inl fB)), (aN, .inl (K.1, 124, .inl fN)), (aL, .inl (K.2.1, 62, .inl fL))]) (wN := [(h0, .inr (2, [.int 0, .long seed, .long w, .int (nI cnt), .int vb, .int pl, .int vs, .ref aS, .ref aA, .ref aB, .ref aN, .ref aM, .ref aL, .int i, .int (bd_ch ((bd_tx fS fA fB fN fL j) ++ [bd_ltN s9] ++ (bd_dg j) ++ [40] ++ (bd_dg a9)) i), .int (nI ((bd_tx fS fA fB fN fL j) ++ [bd_ltN s9] ++ (bd_dg j) ++ [40] ++ (bd_dg a9)).length)])), (aS, .inl (K.1, 124, .inl fS)), (aA, .inl (K.1, 124, .inl fA)), (aB, .inl (K.1, 124, .inl fB)), (aN, .inl (K.1, 124, .inl fN)), (aL, .inl (K.2.1, 62, .inl fL))]) (va_runV (As := [.int (nI a9)]) (rest := []) ⟨hx, hb, hml, hown, hw⟩ (c_M_sayNumber l G D K H.size h0 0 seed w cnt vb pl vs aS aA aB aN aM aL i ((bd_tx fS fA fB fN fL j) ++ [bd_ltN s9] ++ (bd_dg j) ++ [40]) a9 (by first | omega | (simp only [List.length_append, List.length_cons, List.length_nil]; omega)) (by omega)) (cwV 1 hw (cx_gV k_430 k_432 ks_M_sayNumber k_3 k_433) rfl rfl rfl (by decide +kernel) ⟨Nat.le_of_ble_eq_true rfl, Nat.le_of_ble_eq_true rfl⟩) (cx_preV (q0 := 0) (ci := 2) hK hP hD hS hA hE rfl rfl [0] rfl rfl (by decide)) rfl rfl hl.1 rfl (lv_room (Nat.le_of_ble_eq_true rfl)) d_M_letter_73 ⟨Nat.le_of_ble_eq_true rfl, Nat.le_of_ble_eq_true rfl⟩) hP hD hS hA [0] [1, 2, 3, 4, 5] rfl rfl (by decide) (by decide) [5, 0, 1, 2, 3, 4] rfl rfl (by decide) (fun H locs hP hD hS => ?_)
      refine lv_aload_n hx hb d_M_letter_76 rfl (lv_at hl 2 rfl) ?_
      refine lv_bipush (v := 44) hx hb d_M_letter_77 (by decide) ?_
      refine cx_cv (wr := [(aS, .inl (K.1, 124, .inl fS)), (aA, .inl (K.1, 124, .inl fA)), (aB, .inl (K.1, 124, .inl fB)), (aN, .inl (K.1, 124, .inl fN)), (aL, .inl (K.2.1, 62, .inl fL))]) (wN := [(h0, .inr (2, [.int 0, .long seed, .long w, .int (nI cnt), .int vb, .int pl, .int vs, .ref aS, .ref aA, .ref aB, .ref aN, .ref aM, .ref aL, .int i, .int (bd_ch ((bd_tx fS fA fB fN fL j) ++ [bd_ltN s9] ++ (bd_dg j) ++ [40] ++ (bd_dg a9) ++ [44]) i), .int (nI ((bd_tx fS fA fB fN fL j) ++ [bd_ltN s9] ++ (bd_dg j) ++ [40] ++ (bd_dg a9) ++ [44]).length)])), (aS, .inl (K.1, 124, .inl fS)), (aA, .inl (K.1, 124, .inl fA)), (aB, .inl (K.1, 124, .inl fB)), (aN, .inl (K.1, 124, .inl fN)), (aL, .inl (K.2.1, 62, .inl fL))]) (va_runV (As := [.int 44]) (rest := []) ⟨hx, hb, hml, hown, hw⟩ (c_M_say l G D K H.size h0 0 seed w cnt vb pl vs aS aA aB aN aM aL i ((bd_tx fS fA fB fN fL j) ++ [bd_ltN s9] ++ (bd_dg j) ++ [40] ++ (bd_dg a9)) 44 (by first | omega | (simp only [List.length_append, List.length_cons, List.length_nil]; omega))) (cwV 1 hw (cx_gV k_426 k_428 ks_M_say k_3 k_429) rfl rfl rfl (by decide +kernel) ⟨Nat.le_of_ble_eq_true rfl, Nat.le_of_ble_eq_true rfl⟩) (cx_preV (q0 := 0) (ci := 2) hK hP hD hS hA hE rfl rfl [0] rfl rfl (by decide)) rfl rfl hl.1 rfl (lv_room (Nat.le_of_ble_eq_true rfl)) d_M_letter_79 ⟨Nat.le_of_ble_eq_true rfl, Nat.le_of_ble_eq_true rfl⟩) hP hD hS hA [0] [1, 2, 3, 4, 5] rfl rfl (by decide) (by decide) [5, 0, 1, 2, 3, 4] rfl rfl (by decide) (fun H locs hP hD hS => ?_)
      refine lv_aload_n hx hb d_M_letter_82 rfl (lv_at hl 2 rfl) ?_
      refine lv_aload_n hx hb d_M_letter_83 rfl (lv_at hl 2 rfl) ?_
      refine va_get (D := D) (ci := 2) (v := .ref aB) (C := "BuildDrawerModel") (T := TM) (N := 16) hx hb hw inM hown hK hP 0 rfl rfl 9 (by decide) (hw _ k_312) (fun _ h9 => h9) rfl d_M_letter_84 ?_
      refine lv_iload_n hx hb d_M_letter_87 rfl (lv_at hl 0 rfl) ?_
      refine va_iald hx hb hK hP 3 0 rfl rfl (vp_in_nI (n := j) (by omega) (by omega)) d_M_letter_88 ?_
      refine cx_ti (y := nI b9) (by rw [nI_clamp (by omega)]; exact hb9) ?_
      refine cx_cv (wr := [(aS, .inl (K.1, 124, .inl fS)), (aA, .inl (K.1, 124, .inl fA)), (aB, .inl (K.1, 124, .inl fB)), (aN, .inl (K.1, 124, .inl fN)), (aL, .inl (K.2.1, 62, .inl fL))]) (wN := [(h0, .inr (2, [.int 0, .long seed, .long w, .int (nI cnt), .int vb, .int pl, .int vs, .ref aS, .ref aA, .ref aB, .ref aN, .ref aM, .ref aL, .int i, .int (bd_ch ((bd_tx fS fA fB fN fL j) ++ [bd_ltN s9] ++ (bd_dg j) ++ [40] ++ (bd_dg a9) ++ [44] ++ (bd_dg b9)) i), .int (nI ((bd_tx fS fA fB fN fL j) ++ [bd_ltN s9] ++ (bd_dg j) ++ [40] ++ (bd_dg a9) ++ [44] ++ (bd_dg b9)).length)])), (aS, .inl (K.1, 124, .inl fS)), (aA, .inl (K.1, 124, .inl fA)), (aB, .inl (K.1, 124, .inl fB)), (aN, .inl (K.1, 124, .inl fN)), (aL, .inl (K.2.1, 62, .inl fL))]) (va_runV (As := [.int (nI b9)]) (rest := []) ⟨hx, hb, hml, hown, hw⟩ (c_M_sayNumber l G D K H.size h0 0 seed w cnt vb pl vs aS aA aB aN aM aL i ((bd_tx fS fA fB fN fL j) ++ [bd_ltN s9] ++ (bd_dg j) ++ [40] ++ (bd_dg a9) ++ [44]) b9 (by first | omega | (simp only [List.length_append, List.length_cons, List.length_nil]; omega)) (by omega)) (cwV 1 hw (cx_gV k_430 k_432 ks_M_sayNumber k_3 k_433) rfl rfl rfl (by decide +kernel) ⟨Nat.le_of_ble_eq_true rfl, Nat.le_of_ble_eq_true rfl⟩) (cx_preV (q0 := 0) (ci := 2) hK hP hD hS hA hE rfl rfl [0] rfl rfl (by decide)) rfl rfl hl.1 rfl (lv_room (Nat.le_of_ble_eq_true rfl)) d_M_letter_89 ⟨Nat.le_of_ble_eq_true rfl, Nat.le_of_ble_eq_true rfl⟩) hP hD hS hA [0] [1, 2, 3, 4, 5] rfl rfl (by decide) (by decide) [5, 0, 1, 2, 3, 4] rfl rfl (by decide) (fun H locs hP hD hS => ?_)
      refine lv_aload_n hx hb d_M_letter_92 rfl (lv_at hl 2 rfl) ?_
      refine lv_bipush (v := 41) hx hb d_M_letter_93 (by decide) ?_
      refine cx_cv (wr := [(aS, .inl (K.1, 124, .inl fS)), (aA, .inl (K.1, 124, .inl fA)), (aB, .inl (K.1, 124, .inl fB)), (aN, .inl (K.1, 124, .inl fN)), (aL, .inl (K.2.1, 62, .inl fL))]) (wN := [(h0, .inr (2, [.int 0, .long seed, .long w, .int (nI cnt), .int vb, .int pl, .int vs, .ref aS, .ref aA, .ref aB, .ref aN, .ref aM, .ref aL, .int i, .int (bd_ch ((bd_tx fS fA fB fN fL j) ++ [bd_ltN s9] ++ (bd_dg j) ++ [40] ++ (bd_dg a9) ++ [44] ++ (bd_dg b9) ++ [41]) i), .int (nI ((bd_tx fS fA fB fN fL j) ++ [bd_ltN s9] ++ (bd_dg j) ++ [40] ++ (bd_dg a9) ++ [44] ++ (bd_dg b9) ++ [41]).length)])), (aS, .inl (K.1, 124, .inl fS)), (aA, .inl (K.1, 124, .inl fA)), (aB, .inl (K.1, 124, .inl fB)), (aN, .inl (K.1, 124, .inl fN)), (aL, .inl (K.2.1, 62, .inl fL))]) (va_runV (As := [.int 41]) (rest := []) ⟨hx, hb, hml, hown, hw⟩ (c_M_say l G D K H.size h0 0 seed w cnt vb pl vs aS aA aB aN aM aL i ((bd_tx fS fA fB fN fL j) ++ [bd_ltN s9] ++ (bd_dg j) ++ [40] ++ (bd_dg a9) ++ [44] ++ (bd_dg b9)) 41 (by first | omega | (simp only [List.length_append, List.length_cons, List.length_nil]; omega))) (cwV 1 hw (cx_gV k_426 k_428 ks_M_say k_3 k_429) rfl rfl rfl (by decide +kernel) ⟨Nat.le_of_ble_eq_true rfl, Nat.le_of_ble_eq_true rfl⟩) (cx_preV (q0 := 0) (ci := 2) hK hP hD hS hA hE rfl rfl [0] rfl rfl (by decide)) rfl rfl hl.1 rfl (lv_room (Nat.le_of_ble_eq_true rfl)) d_M_letter_95 ⟨Nat.le_of_ble_eq_true rfl, Nat.le_of_ble_eq_true rfl⟩) hP hD hS hA [0] [1, 2, 3, 4, 5] rfl rfl (by decide) (by decide) [5, 0, 1, 2, 3, 4] rfl rfl (by decide) (fun H locs hP hD hS => ?_)
      refine lv_aload_n hx hb d_M_letter_98 rfl (lv_at hl 2 rfl) ?_
      refine va_get (D := D) (ci := 2) (v := .ref aN) (C := "BuildDrawerModel") (T := TM) (N := 16) hx hb hw inM hown hK hP 0 rfl rfl 10 (by decide) (hw _ k_313) (fun _ h9 => h9) rfl d_M_letter_99 ?_
      refine lv_iload_n hx hb d_M_letter_102 rfl (lv_at hl 0 rfl) ?_
      refine va_iald hx hb hK hP 4 0 rfl rfl (vp_in_nI (n := j) (by omega) (by omega)) d_M_letter_103 ?_
      refine cx_ti (y := fN j) (by rw [nI_clamp (by omega)]) ?_
      refine lv_iconst (v := (-1)) hx hb d_M_letter_104 (by decide) ?_
      refine lv_icmp_eq (tgt := 124) hx hb d_M_letter_105 (by decide) (fun r_105 => ?_) (fun r_105 => ?_)
      · have c_105 := r_105
        refine lv_aload_n hx hb d_M_letter_124 rfl (lv_at hl 2 rfl) ?_
        refine lv_bipush (v := 59) hx hb d_M_letter_125 (by decide) ?_
        refine cx_cv (wr := [(aS, .inl (K.1, 124, .inl fS)), (aA, .inl (K.1, 124, .inl fA)), (aB, .inl (K.1, 124, .inl fB)), (aN, .inl (K.1, 124, .inl fN)), (aL, .inl (K.2.1, 62, .inl fL))]) (wN := [(h0, .inr (2, [.int 0, .long seed, .long w, .int (nI cnt), .int vb, .int pl, .int vs, .ref aS, .ref aA, .ref aB, .ref aN, .ref aM, .ref aL, .int i, .int (bd_ch ((bd_tx fS fA fB fN fL j) ++ [bd_ltN s9] ++ (bd_dg j) ++ [40] ++ (bd_dg a9) ++ [44] ++ (bd_dg b9) ++ [41] ++ [59]) i), .int (nI ((bd_tx fS fA fB fN fL j) ++ [bd_ltN s9] ++ (bd_dg j) ++ [40] ++ (bd_dg a9) ++ [44] ++ (bd_dg b9) ++ [41] ++ [59]).length)])), (aS, .inl (K.1, 124, .inl fS)), (aA, .inl (K.1, 124, .inl fA)), (aB, .inl (K.1, 124, .inl fB)), (aN, .inl (K.1, 124, .inl fN)), (aL, .inl (K.2.1, 62, .inl fL))]) (va_runV (As := [.int 59]) (rest := []) ⟨hx, hb, hml, hown, hw⟩ (c_M_say l G D K H.size h0 0 seed w cnt vb pl vs aS aA aB aN aM aL i ((bd_tx fS fA fB fN fL j) ++ [bd_ltN s9] ++ (bd_dg j) ++ [40] ++ (bd_dg a9) ++ [44] ++ (bd_dg b9) ++ [41]) 59 (by first | omega | (simp only [List.length_append, List.length_cons, List.length_nil]; omega))) (cwV 1 hw (cx_gV k_426 k_428 ks_M_say k_3 k_429) rfl rfl rfl (by decide +kernel) ⟨Nat.le_of_ble_eq_true rfl, Nat.le_of_ble_eq_true rfl⟩) (cx_preV (q0 := 0) (ci := 2) hK hP hD hS hA hE rfl rfl [0] rfl rfl (by decide)) rfl rfl hl.1 rfl (lv_room (Nat.le_of_ble_eq_true rfl)) d_M_letter_127 ⟨Nat.le_of_ble_eq_true rfl, Nat.le_of_ble_eq_true rfl⟩) hP hD hS hA [0] [1, 2, 3, 4, 5] rfl rfl (by decide) (by decide) [5, 0, 1, 2, 3, 4] rfl rfl (by decide) (fun H locs hP hD hS => ?_)
        refine lv_iinc (v := nI (j + 1)) (lv' := [(2, .int (nI (j + 1))), (1, .int i), (0, .ref h0)]) hx hb d_M_letter_130 hl (k := 0) rfl (by exact cx_inc j) (by decide) rfl (fun ls hl => ?_)
        refine lv_goto (tgt := 22) hx hb d_M_letter_133 (by decide) ?_
        have hP : va_P D vwCl [(h0, .inr (2, [.int 0, .long seed, .long w, .int (nI cnt), .int vb, .int pl, .int vs, .ref aS, .ref aA, .ref aB, .ref aN, .ref aM, .ref aL, .int i, .int (bd_ch (bd_tx fS fA fB fN fL (j + 1)) i), .int (nI (bd_tx fS fA fB fN fL (j + 1)).length)])), (aS, .inl (K.1, 124, .inl fS)), (aA, .inl (K.1, 124, .inl fA)), (aB, .inl (K.1, 124, .inl fB)), (aN, .inl (K.1, 124, .inl fN)), (aL, .inl (K.2.1, 62, .inl fL))] H := by rw [show (bd_tx fS fA fB fN fL (j + 1)) = (bd_tx fS fA fB fN fL j) ++ [bd_ltN s9] ++ (bd_dg j) ++ [40] ++ (bd_dg a9) ++ [44] ++ (bd_dg b9) ++ [41] ++ [59] by rw [e_i]; rw [bd_pt, bd_ptN, if_pos r_105, hs, ha9, hb9, nI_clamp hlt_s, nI_clamp hlt_a, nI_clamp hlt_b]; simp only [List.append_assoc, List.append_nil, List.nil_append]]; exact hP
        have hD : va_D A [(h0, .inr (2, [.int 0, .long seed, .long w, .int (nI cnt), .int vb, .int pl, .int vs, .ref aS, .ref aA, .ref aB, .ref aN, .ref aM, .ref aL, .int i, .int (bd_ch (bd_tx fS fA fB fN fL (j + 1)) i), .int (nI (bd_tx fS fA fB fN fL (j + 1)).length)])), (aS, .inl (K.1, 124, .inl fS)), (aA, .inl (K.1, 124, .inl fA)), (aB, .inl (K.1, 124, .inl fB)), (aN, .inl (K.1, 124, .inl fN)), (aL, .inl (K.2.1, 62, .inl fL))] := by rw [show (bd_tx fS fA fB fN fL (j + 1)) = (bd_tx fS fA fB fN fL j) ++ [bd_ltN s9] ++ (bd_dg j) ++ [40] ++ (bd_dg a9) ++ [44] ++ (bd_dg b9) ++ [41] ++ [59] by rw [e_i]; rw [bd_pt, bd_ptN, if_pos r_105, hs, ha9, hb9, nI_clamp hlt_s, nI_clamp hlt_a, nI_clamp hlt_b]; simp only [List.append_assoc, List.append_nil, List.nil_append]]; exact hD
        exact ih_22 (j + 1) _ _ _ ⟨(by omega), hP, hD, hS, lv_sub hl [0, 1, 2] rfl⟩ (by omega)
      · have c_105 := r_105
        obtain ⟨n9, hln, hn9⟩ := hn8.resolve_left r_105
        have hlt_n : n9 < 2 ^ 31 := by omega
        have hg4 := bd_dg2 hln
        refine lv_aload_n hx hb d_M_letter_108 rfl (lv_at hl 2 rfl) ?_
        refine lv_bipush (v := 60) hx hb d_M_letter_109 (by decide) ?_
        refine cx_cv (wr := [(aS, .inl (K.1, 124, .inl fS)), (aA, .inl (K.1, 124, .inl fA)), (aB, .inl (K.1, 124, .inl fB)), (aN, .inl (K.1, 124, .inl fN)), (aL, .inl (K.2.1, 62, .inl fL))]) (wN := [(h0, .inr (2, [.int 0, .long seed, .long w, .int (nI cnt), .int vb, .int pl, .int vs, .ref aS, .ref aA, .ref aB, .ref aN, .ref aM, .ref aL, .int i, .int (bd_ch ((bd_tx fS fA fB fN fL j) ++ [bd_ltN s9] ++ (bd_dg j) ++ [40] ++ (bd_dg a9) ++ [44] ++ (bd_dg b9) ++ [41] ++ [60]) i), .int (nI ((bd_tx fS fA fB fN fL j) ++ [bd_ltN s9] ++ (bd_dg j) ++ [40] ++ (bd_dg a9) ++ [44] ++ (bd_dg b9) ++ [41] ++ [60]).length)])), (aS, .inl (K.1, 124, .inl fS)), (aA, .inl (K.1, 124, .inl fA)), (aB, .inl (K.1, 124, .inl fB)), (aN, .inl (K.1, 124, .inl fN)), (aL, .inl (K.2.1, 62, .inl fL))]) (va_runV (As := [.int 60]) (rest := []) ⟨hx, hb, hml, hown, hw⟩ (c_M_say l G D K H.size h0 0 seed w cnt vb pl vs aS aA aB aN aM aL i ((bd_tx fS fA fB fN fL j) ++ [bd_ltN s9] ++ (bd_dg j) ++ [40] ++ (bd_dg a9) ++ [44] ++ (bd_dg b9) ++ [41]) 60 (by first | omega | (simp only [List.length_append, List.length_cons, List.length_nil]; omega))) (cwV 1 hw (cx_gV k_426 k_428 ks_M_say k_3 k_429) rfl rfl rfl (by decide +kernel) ⟨Nat.le_of_ble_eq_true rfl, Nat.le_of_ble_eq_true rfl⟩) (cx_preV (q0 := 0) (ci := 2) hK hP hD hS hA hE rfl rfl [0] rfl rfl (by decide)) rfl rfl hl.1 rfl (lv_room (Nat.le_of_ble_eq_true rfl)) d_M_letter_111 ⟨Nat.le_of_ble_eq_true rfl, Nat.le_of_ble_eq_true rfl⟩) hP hD hS hA [0] [1, 2, 3, 4, 5] rfl rfl (by decide) (by decide) [5, 0, 1, 2, 3, 4] rfl rfl (by decide) (fun H locs hP hD hS => ?_)
        refine lv_aload_n hx hb d_M_letter_114 rfl (lv_at hl 2 rfl) ?_
        refine lv_aload_n hx hb d_M_letter_115 rfl (lv_at hl 2 rfl) ?_
        refine va_get (D := D) (ci := 2) (v := .ref aN) (C := "BuildDrawerModel") (T := TM) (N := 16) hx hb hw inM hown hK hP 0 rfl rfl 10 (by decide) (hw _ k_313) (fun _ h9 => h9) rfl d_M_letter_116 ?_
        refine lv_iload_n hx hb d_M_letter_119 rfl (lv_at hl 0 rfl) ?_
        refine va_iald hx hb hK hP 4 0 rfl rfl (vp_in_nI (n := j) (by omega) (by omega)) d_M_letter_120 ?_
        refine cx_ti (y := nI n9) (by rw [nI_clamp (by omega)]; exact hn9) ?_
        refine cx_cv (wr := [(aS, .inl (K.1, 124, .inl fS)), (aA, .inl (K.1, 124, .inl fA)), (aB, .inl (K.1, 124, .inl fB)), (aN, .inl (K.1, 124, .inl fN)), (aL, .inl (K.2.1, 62, .inl fL))]) (wN := [(h0, .inr (2, [.int 0, .long seed, .long w, .int (nI cnt), .int vb, .int pl, .int vs, .ref aS, .ref aA, .ref aB, .ref aN, .ref aM, .ref aL, .int i, .int (bd_ch ((bd_tx fS fA fB fN fL j) ++ [bd_ltN s9] ++ (bd_dg j) ++ [40] ++ (bd_dg a9) ++ [44] ++ (bd_dg b9) ++ [41] ++ [60] ++ (bd_dg n9)) i), .int (nI ((bd_tx fS fA fB fN fL j) ++ [bd_ltN s9] ++ (bd_dg j) ++ [40] ++ (bd_dg a9) ++ [44] ++ (bd_dg b9) ++ [41] ++ [60] ++ (bd_dg n9)).length)])), (aS, .inl (K.1, 124, .inl fS)), (aA, .inl (K.1, 124, .inl fA)), (aB, .inl (K.1, 124, .inl fB)), (aN, .inl (K.1, 124, .inl fN)), (aL, .inl (K.2.1, 62, .inl fL))]) (va_runV (As := [.int (nI n9)]) (rest := []) ⟨hx, hb, hml, hown, hw⟩ (c_M_sayNumber l G D K H.size h0 0 seed w cnt vb pl vs aS aA aB aN aM aL i ((bd_tx fS fA fB fN fL j) ++ [bd_ltN s9] ++ (bd_dg j) ++ [40] ++ (bd_dg a9) ++ [44] ++ (bd_dg b9) ++ [41] ++ [60]) n9 (by first | omega | (simp only [List.length_append, List.length_cons, List.length_nil]; omega)) (by omega)) (cwV 1 hw (cx_gV k_430 k_432 ks_M_sayNumber k_3 k_433) rfl rfl rfl (by decide +kernel) ⟨Nat.le_of_ble_eq_true rfl, Nat.le_of_ble_eq_true rfl⟩) (cx_preV (q0 := 0) (ci := 2) hK hP hD hS hA hE rfl rfl [0] rfl rfl (by decide)) rfl rfl hl.1 rfl (lv_room (Nat.le_of_ble_eq_true rfl)) d_M_letter_121 ⟨Nat.le_of_ble_eq_true rfl, Nat.le_of_ble_eq_true rfl⟩) hP hD hS hA [0] [1, 2, 3, 4, 5] rfl rfl (by decide) (by decide) [5, 0, 1, 2, 3, 4] rfl rfl (by decide) (fun H locs hP hD hS => ?_)
        refine lv_aload_n hx hb d_M_letter_124 rfl (lv_at hl 2 rfl) ?_
        refine lv_bipush (v := 59) hx hb d_M_letter_125 (by decide) ?_
        refine cx_cv (wr := [(aS, .inl (K.1, 124, .inl fS)), (aA, .inl (K.1, 124, .inl fA)), (aB, .inl (K.1, 124, .inl fB)), (aN, .inl (K.1, 124, .inl fN)), (aL, .inl (K.2.1, 62, .inl fL))]) (wN := [(h0, .inr (2, [.int 0, .long seed, .long w, .int (nI cnt), .int vb, .int pl, .int vs, .ref aS, .ref aA, .ref aB, .ref aN, .ref aM, .ref aL, .int i, .int (bd_ch ((bd_tx fS fA fB fN fL j) ++ [bd_ltN s9] ++ (bd_dg j) ++ [40] ++ (bd_dg a9) ++ [44] ++ (bd_dg b9) ++ [41] ++ [60] ++ (bd_dg n9) ++ [59]) i), .int (nI ((bd_tx fS fA fB fN fL j) ++ [bd_ltN s9] ++ (bd_dg j) ++ [40] ++ (bd_dg a9) ++ [44] ++ (bd_dg b9) ++ [41] ++ [60] ++ (bd_dg n9) ++ [59]).length)])), (aS, .inl (K.1, 124, .inl fS)), (aA, .inl (K.1, 124, .inl fA)), (aB, .inl (K.1, 124, .inl fB)), (aN, .inl (K.1, 124, .inl fN)), (aL, .inl (K.2.1, 62, .inl fL))]) (va_runV (As := [.int 59]) (rest := []) ⟨hx, hb, hml, hown, hw⟩ (c_M_say l G D K H.size h0 0 seed w cnt vb pl vs aS aA aB aN aM aL i ((bd_tx fS fA fB fN fL j) ++ [bd_ltN s9] ++ (bd_dg j) ++ [40] ++ (bd_dg a9) ++ [44] ++ (bd_dg b9) ++ [41] ++ [60] ++ (bd_dg n9)) 59 (by first | omega | (simp only [List.length_append, List.length_cons, List.length_nil]; omega))) (cwV 1 hw (cx_gV k_426 k_428 ks_M_say k_3 k_429) rfl rfl rfl (by decide +kernel) ⟨Nat.le_of_ble_eq_true rfl, Nat.le_of_ble_eq_true rfl⟩) (cx_preV (q0 := 0) (ci := 2) hK hP hD hS hA hE rfl rfl [0] rfl rfl (by decide)) rfl rfl hl.1 rfl (lv_room (Nat.le_of_ble_eq_true rfl)) d_M_letter_127 ⟨Nat.le_of_ble_eq_true rfl, Nat.le_of_ble_eq_true rfl⟩) hP hD hS hA [0] [1, 2, 3, 4, 5] rfl rfl (by decide) (by decide) [5, 0, 1, 2, 3, 4] rfl rfl (by decide) (fun H locs hP hD hS => ?_)
        refine lv_iinc (v := nI (j + 1)) (lv' := [(2, .int (nI (j + 1))), (1, .int i), (0, .ref h0)]) hx hb d_M_letter_130 hl (k := 0) rfl (by exact cx_inc j) (by decide) rfl (fun ls hl => ?_)
        refine lv_goto (tgt := 22) hx hb d_M_letter_133 (by decide) ?_
        have hP : va_P D vwCl [(h0, .inr (2, [.int 0, .long seed, .long w, .int (nI cnt), .int vb, .int pl, .int vs, .ref aS, .ref aA, .ref aB, .ref aN, .ref aM, .ref aL, .int i, .int (bd_ch (bd_tx fS fA fB fN fL (j + 1)) i), .int (nI (bd_tx fS fA fB fN fL (j + 1)).length)])), (aS, .inl (K.1, 124, .inl fS)), (aA, .inl (K.1, 124, .inl fA)), (aB, .inl (K.1, 124, .inl fB)), (aN, .inl (K.1, 124, .inl fN)), (aL, .inl (K.2.1, 62, .inl fL))] H := by rw [show (bd_tx fS fA fB fN fL (j + 1)) = (bd_tx fS fA fB fN fL j) ++ [bd_ltN s9] ++ (bd_dg j) ++ [40] ++ (bd_dg a9) ++ [44] ++ (bd_dg b9) ++ [41] ++ [60] ++ (bd_dg n9) ++ [59] by rw [e_i]; rw [bd_pt, bd_ptN, if_neg r_105, hs, ha9, hb9, hn9, nI_clamp hlt_s, nI_clamp hlt_a, nI_clamp hlt_b, nI_clamp hlt_n]; simp only [List.append_assoc]]; exact hP
        have hD : va_D A [(h0, .inr (2, [.int 0, .long seed, .long w, .int (nI cnt), .int vb, .int pl, .int vs, .ref aS, .ref aA, .ref aB, .ref aN, .ref aM, .ref aL, .int i, .int (bd_ch (bd_tx fS fA fB fN fL (j + 1)) i), .int (nI (bd_tx fS fA fB fN fL (j + 1)).length)])), (aS, .inl (K.1, 124, .inl fS)), (aA, .inl (K.1, 124, .inl fA)), (aB, .inl (K.1, 124, .inl fB)), (aN, .inl (K.1, 124, .inl fN)), (aL, .inl (K.2.1, 62, .inl fL))] := by rw [show (bd_tx fS fA fB fN fL (j + 1)) = (bd_tx fS fA fB fN fL j) ++ [bd_ltN s9] ++ (bd_dg j) ++ [40] ++ (bd_dg a9) ++ [44] ++ (bd_dg b9) ++ [41] ++ [60] ++ (bd_dg n9) ++ [59] by rw [e_i]; rw [bd_pt, bd_ptN, if_neg r_105, hs, ha9, hb9, hn9, nI_clamp hlt_s, nI_clamp hlt_a, nI_clamp hlt_b, nI_clamp hlt_n]; simp only [List.append_assoc]]; exact hD
        exact ih_22 (j + 1) _ _ _ ⟨(by omega), hP, hD, hS, lv_sub hl [0, 1, 2] rfl⟩ (by omega)
    · have c_36 := r_36
      have e_i : (bd_tx fS fA fB fN fL (j + 1)) = (bd_tx fS fA fB fN fL j) := by rw [bd_tx, if_pos r_36]
      refine lv_goto (tgt := 130) hx hb d_M_letter_39 (by decide) ?_
      refine lv_iinc (v := nI (j + 1)) (lv' := [(2, .int (nI (j + 1))), (1, .int i), (0, .ref h0)]) hx hb d_M_letter_130 hl (k := 0) rfl (by exact cx_inc j) (by decide) rfl (fun ls hl => ?_)
      refine lv_goto (tgt := 22) hx hb d_M_letter_133 (by decide) ?_
      have hP : va_P D vwCl [(h0, .inr (2, [.int 0, .long seed, .long w, .int (nI cnt), .int vb, .int pl, .int vs, .ref aS, .ref aA, .ref aB, .ref aN, .ref aM, .ref aL, .int i, .int (bd_ch (bd_tx fS fA fB fN fL (j + 1)) i), .int (nI (bd_tx fS fA fB fN fL (j + 1)).length)])), (aS, .inl (K.1, 124, .inl fS)), (aA, .inl (K.1, 124, .inl fA)), (aB, .inl (K.1, 124, .inl fB)), (aN, .inl (K.1, 124, .inl fN)), (aL, .inl (K.2.1, 62, .inl fL))] H := by rw [e_i]; exact hP
      have hD : va_D A [(h0, .inr (2, [.int 0, .long seed, .long w, .int (nI cnt), .int vb, .int pl, .int vs, .ref aS, .ref aA, .ref aB, .ref aN, .ref aM, .ref aL, .int i, .int (bd_ch (bd_tx fS fA fB fN fL (j + 1)) i), .int (nI (bd_tx fS fA fB fN fL (j + 1)).length)])), (aS, .inl (K.1, 124, .inl fS)), (aA, .inl (K.1, 124, .inl fA)), (aB, .inl (K.1, 124, .inl fB)), (aN, .inl (K.1, 124, .inl fN)), (aL, .inl (K.2.1, 62, .inl fL))] := by rw [e_i]; exact hD
      exact ih_22 (j + 1) _ _ _ ⟨(by omega), hP, hD, hS, lv_sub hl [0, 1, 2] rfl⟩ (by omega)
set_option maxHeartbeats 4000000 in
set_option maxRecDepth 100000 in
theorem c_M_init (l : Launch) (G : cx_G) (D : va_G) (K : cx_KT) (sz : Nat) (h0 : Nat) (seed : Int64)  : Met l y_M_init w_M_init ({ frames := 1, cells := 6, slots := 682, locals := 20 }) (cx_Pc G D (cx_ty K) [(h0, .inr (2, [.int 0, .long 0, .long 0, .int 0, .int 0, .int 0, .int 0, .null, .null, .null, .null, .null, .null, .int 0, .int 0, .int 0]))] sz [.ref h0, .long seed]) (cx_Qu D (cx_ty K) (fun u => [(h0, .inr (2, [.int 0, .long seed, .long 0, .int 0, .int 0, .int 0, .int 1, .ref (u 0), .ref (u 1), .ref (u 2), .ref (u 3), .ref (u 4), .ref (u 5), .int 0, .int 0, .int 0])), ((u 0), .inl (K.1, 124, .inl (fun _ => 0))), ((u 1), .inl (K.1, 124, .inl (fun _ => 0))), ((u 2), .inl (K.1, 124, .inl (fun _ => 0))), ((u 3), .inl (K.1, 124, .inl (fun _ => 0))), ((u 4), .inl (K.1, 124, .inl (fun _ => 0))), ((u 5), .inl (K.2.1, 62, .inl (fun _ => 0)))]) (va_A [(h0, .inr (2, [.int 0, .long 0, .long 0, .int 0, .int 0, .int 0, .int 0, .null, .null, .null, .null, .null, .null, .int 0, .int 0, .int 0]))] sz)) 6 682 (va_A [(h0, .inr (2, [.int 0, .long 0, .long 0, .int 0, .int 0, .int 0, .int 0, .null, .null, .null, .null, .null, .null, .int 0, .int 0, .int 0]))] sz) := by
  refine Met.ofW (cc := prog_4_method_1_code) (maxL := 3) (ret := none) (by decide) rfl ?_
  intro p e s m args below meth c s₁ B hml hv
  obtain ⟨rfl, hsz, hP, hK, hD0, hE⟩ := hv
  have hx := B.exec
  have hb := B.bytes
  have hr := B.returns
  have hts := atoms_spec (ws := w_M_init) B.pre
  have hw : ∀ w ∈ cw, w.before _ s = true := fun w h => hts w (List.mem_cons_of_mem _ h)
  have hown : s.vm.findClass "BuildDrawerModel" = some m.cls := findClass_of_methodNamed B.named
  have hlocks := B.notSynchronized
  have hin : meth.name = "<init>" := (name_of_methodNamed B.named B.method).1
  subst hsz
  have hD := hD0.self (sz := s.heap.size)
  generalize hAe : va_A [(h0, .inr (2, [.int 0, .long 0, .long 0, .int 0, .int 0, .int 0, .int 0, .null, .null, .null, .null, .null, .null, .int 0, .int 0, .int 0]))] s.heap.size = A at hD hE ⊢
  have hA : ∀ q : Nat, s.heap.size ≤ q → A q := fun q h => by rw [← hAe]; exact Or.inr h
  have hS : va_S A s.heap s.heap [] := va_S.rf
  have hl := lv_entry ([.ref h0, .long seed]) (n := 3) (Nat.le_of_ble_eq_true rfl)
  rw [lg_entry_eq]
  generalize (lg_sl ([.ref h0, .long seed]) ++ List.replicate (3 - (lg_sl ([.ref h0, .long seed])).length) Slot.unset).toArray = ls at hl ⊢
  have hl : lv_has ls 3 [(0, .ref h0), (1, .long seed)] := hl
  refine lv_aload_n hx hb d_M_init_0 rfl (lv_at hl 0 rfl) ?_
  refine W.objInit hx hb hown (hw _ k_302) (hw _ k_15) (hw _ k_16) rfl (by rw [hml]; exact hl.1) rfl d_M_init_1 (Nat.le_of_ble_eq_true rfl) (Nat.le_of_ble_eq_true rfl) ?_
  refine W.eq (g2 := F0 m 4 ls []) rfl ?_
  refine lv_aload_n hx hb d_M_init_4 rfl (lv_at hl 0 rfl) ?_
  refine lv_iconst (v := 1) hx hb d_M_init_5 (by decide) ?_
  refine va_put (D := D) (ci := 2) (v := .int 1) (ty := .boolean) (C := "BuildDrawerModel") (T := TM) (N := 16) hx hb hw inM tyM tyM_ok nmM hown hK hP hD hS 0 rfl rfl 6 (by decide) (hw _ k_309) (fun _ h9 => h9) rfl (by decide +kernel) rfl rfl (Nat.le_of_ble_eq_true rfl) d_M_init_6 (fun H locs hP hD hS => ?_)
  have hP : va_P D vwCl [(h0, .inr (2, [.int 0, .long 0, .long 0, .int 0, .int 0, .int 0, .int 1, .null, .null, .null, .null, .null, .null, .int 0, .int 0, .int 0]))] H := hP
  have hD : va_D A [(h0, .inr (2, [.int 0, .long 0, .long 0, .int 0, .int 0, .int 0, .int 1, .null, .null, .null, .null, .null, .null, .int 0, .int 0, .int 0]))] := hD
  refine lv_aload_n hx hb d_M_init_9 rfl (lv_at hl 0 rfl) ?_
  refine lv_bipush (v := 124) hx hb d_M_init_10 (by decide) ?_
  refine cx_newa (atype := .int) (ty := .int) (a0 := (124, .inl (fun _ => 0))) hx hb (hw _ k_99) rfl (fun _ h => h) hK 0 rfl hP hD hS hA (fun _ => rfl) (n := 124) (N9 := 124) (by decide) (by decide) (by decide) (Nat.le_of_ble_eq_true rfl) (Nat.le_of_ble_eq_true rfl) d_M_init_12 (fun q12 H hP hD hS => ?_)
  have hP : va_P D vwCl [(h0, .inr (2, [.int 0, .long 0, .long 0, .int 0, .int 0, .int 0, .int 1, .null, .null, .null, .null, .null, .null, .int 0, .int 0, .int 0])), (q12, .inl (K.1, 124, .inl (fun _ => 0)))] H := hP
  have hD : va_D A [(h0, .inr (2, [.int 0, .long 0, .long 0, .int 0, .int 0, .int 0, .int 1, .null, .null, .null, .null, .null, .null, .int 0, .int 0, .int 0])), (q12, .inl (K.1, 124, .inl (fun _ => 0)))] := hD
  refine va_putF (D := D) (ci := 2) (v := .ref q12) (ty := .array .int) (C := "BuildDrawerModel") (T := TM) (N := 16) hx hb hw inM tyM tyM_ok nmM hown hK hP hD hS 0 rfl rfl 7 (by decide) (hw _ k_310) (fun _ h9 => h9) rfl hin rfl (by decide +kernel) rfl rfl (Nat.le_of_ble_eq_true rfl) d_M_init_14 (fun H locs hP hD hS => ?_)
  have hP : va_P D vwCl [(h0, .inr (2, [.int 0, .long 0, .long 0, .int 0, .int 0, .int 0, .int 1, .ref q12, .null, .null, .null, .null, .null, .int 0, .int 0, .int 0])), (q12, .inl (K.1, 124, .inl (fun _ => 0)))] H := hP
  have hD : va_D A [(h0, .inr (2, [.int 0, .long 0, .long 0, .int 0, .int 0, .int 0, .int 1, .ref q12, .null, .null, .null, .null, .null, .int 0, .int 0, .int 0])), (q12, .inl (K.1, 124, .inl (fun _ => 0)))] := hD
  refine lv_aload_n hx hb d_M_init_17 rfl (lv_at hl 0 rfl) ?_
  refine lv_bipush (v := 124) hx hb d_M_init_18 (by decide) ?_
  refine cx_newa (atype := .int) (ty := .int) (a0 := (124, .inl (fun _ => 0))) hx hb (hw _ k_99) rfl (fun _ h => h) hK 0 rfl hP hD hS hA (fun _ => rfl) (n := 124) (N9 := 124) (by decide) (by decide) (by decide) (Nat.le_of_ble_eq_true rfl) (Nat.le_of_ble_eq_true rfl) d_M_init_20 (fun q20 H hP hD hS => ?_)
  have hP : va_P D vwCl [(h0, .inr (2, [.int 0, .long 0, .long 0, .int 0, .int 0, .int 0, .int 1, .ref q12, .null, .null, .null, .null, .null, .int 0, .int 0, .int 0])), (q12, .inl (K.1, 124, .inl (fun _ => 0))), (q20, .inl (K.1, 124, .inl (fun _ => 0)))] H := hP
  have hD : va_D A [(h0, .inr (2, [.int 0, .long 0, .long 0, .int 0, .int 0, .int 0, .int 1, .ref q12, .null, .null, .null, .null, .null, .int 0, .int 0, .int 0])), (q12, .inl (K.1, 124, .inl (fun _ => 0))), (q20, .inl (K.1, 124, .inl (fun _ => 0)))] := hD
  refine va_putF (D := D) (ci := 2) (v := .ref q20) (ty := .array .int) (C := "BuildDrawerModel") (T := TM) (N := 16) hx hb hw inM tyM tyM_ok nmM hown hK hP hD hS 0 rfl rfl 8 (by decide) (hw _ k_311) (fun _ h9 => h9) rfl hin rfl (by decide +kernel) rfl rfl (Nat.le_of_ble_eq_true rfl) d_M_init_22 (fun H locs hP hD hS => ?_)
  have hP : va_P D vwCl [(h0, .inr (2, [.int 0, .long 0, .long 0, .int 0, .int 0, .int 0, .int 1, .ref q12, .ref q20, .null, .null, .null, .null, .int 0, .int 0, .int 0])), (q12, .inl (K.1, 124, .inl (fun _ => 0))), (q20, .inl (K.1, 124, .inl (fun _ => 0)))] H := hP
  have hD : va_D A [(h0, .inr (2, [.int 0, .long 0, .long 0, .int 0, .int 0, .int 0, .int 1, .ref q12, .ref q20, .null, .null, .null, .null, .int 0, .int 0, .int 0])), (q12, .inl (K.1, 124, .inl (fun _ => 0))), (q20, .inl (K.1, 124, .inl (fun _ => 0)))] := hD
  refine lv_aload_n hx hb d_M_init_25 rfl (lv_at hl 0 rfl) ?_
  refine lv_bipush (v := 124) hx hb d_M_init_26 (by decide) ?_
  refine cx_newa (atype := .int) (ty := .int) (a0 := (124, .inl (fun _ => 0))) hx hb (hw _ k_99) rfl (fun _ h => h) hK 0 rfl hP hD hS hA (fun _ => rfl) (n := 124) (N9 := 124) (by decide) (by decide) (by decide) (Nat.le_of_ble_eq_true rfl) (Nat.le_of_ble_eq_true rfl) d_M_init_28 (fun q28 H hP hD hS => ?_)
  have hP : va_P D vwCl [(h0, .inr (2, [.int 0, .long 0, .long 0, .int 0, .int 0, .int 0, .int 1, .ref q12, .ref q20, .null, .null, .null, .null, .int 0, .int 0, .int 0])), (q12, .inl (K.1, 124, .inl (fun _ => 0))), (q20, .inl (K.1, 124, .inl (fun _ => 0))), (q28, .inl (K.1, 124, .inl (fun _ => 0)))] H := hP
  have hD : va_D A [(h0, .inr (2, [.int 0, .long 0, .long 0, .int 0, .int 0, .int 0, .int 1, .ref q12, .ref q20, .null, .null, .null, .null, .int 0, .int 0, .int 0])), (q12, .inl (K.1, 124, .inl (fun _ => 0))), (q20, .inl (K.1, 124, .inl (fun _ => 0))), (q28, .inl (K.1, 124, .inl (fun _ => 0)))] := hD
  refine va_putF (D := D) (ci := 2) (v := .ref q28) (ty := .array .int) (C := "BuildDrawerModel") (T := TM) (N := 16) hx hb hw inM tyM tyM_ok nmM hown hK hP hD hS 0 rfl rfl 9 (by decide) (hw _ k_312) (fun _ h9 => h9) rfl hin rfl (by decide +kernel) rfl rfl (Nat.le_of_ble_eq_true rfl) d_M_init_30 (fun H locs hP hD hS => ?_)
  have hP : va_P D vwCl [(h0, .inr (2, [.int 0, .long 0, .long 0, .int 0, .int 0, .int 0, .int 1, .ref q12, .ref q20, .ref q28, .null, .null, .null, .int 0, .int 0, .int 0])), (q12, .inl (K.1, 124, .inl (fun _ => 0))), (q20, .inl (K.1, 124, .inl (fun _ => 0))), (q28, .inl (K.1, 124, .inl (fun _ => 0)))] H := hP
  have hD : va_D A [(h0, .inr (2, [.int 0, .long 0, .long 0, .int 0, .int 0, .int 0, .int 1, .ref q12, .ref q20, .ref q28, .null, .null, .null, .int 0, .int 0, .int 0])), (q12, .inl (K.1, 124, .inl (fun _ => 0))), (q20, .inl (K.1, 124, .inl (fun _ => 0))), (q28, .inl (K.1, 124, .inl (fun _ => 0)))] := hD
  refine lv_aload_n hx hb d_M_init_33 rfl (lv_at hl 0 rfl) ?_
  refine lv_bipush (v := 124) hx hb d_M_init_34 (by decide) ?_
  refine cx_newa (atype := .int) (ty := .int) (a0 := (124, .inl (fun _ => 0))) hx hb (hw _ k_99) rfl (fun _ h => h) hK 0 rfl hP hD hS hA (fun _ => rfl) (n := 124) (N9 := 124) (by decide) (by decide) (by decide) (Nat.le_of_ble_eq_true rfl) (Nat.le_of_ble_eq_true rfl) d_M_init_36 (fun q36 H hP hD hS => ?_)
  have hP : va_P D vwCl [(h0, .inr (2, [.int 0, .long 0, .long 0, .int 0, .int 0, .int 0, .int 1, .ref q12, .ref q20, .ref q28, .null, .null, .null, .int 0, .int 0, .int 0])), (q12, .inl (K.1, 124, .inl (fun _ => 0))), (q20, .inl (K.1, 124, .inl (fun _ => 0))), (q28, .inl (K.1, 124, .inl (fun _ => 0))), (q36, .inl (K.1, 124, .inl (fun _ => 0)))] H := hP
  have hD : va_D A [(h0, .inr (2, [.int 0, .long 0, .long 0, .int 0, .int 0, .int 0, .int 1, .ref q12, .ref q20, .ref q28, .null, .null, .null, .int 0, .int 0, .int 0])), (q12, .inl (K.1, 124, .inl (fun _ => 0))), (q20, .inl (K.1, 124, .inl (fun _ => 0))), (q28, .inl (K.1, 124, .inl (fun _ => 0))), (q36, .inl (K.1, 124, .inl (fun _ => 0)))] := hD
  refine va_putF (D := D) (ci := 2) (v := .ref q36) (ty := .array .int) (C := "BuildDrawerModel") (T := TM) (N := 16) hx hb hw inM tyM tyM_ok nmM hown hK hP hD hS 0 rfl rfl 10 (by decide) (hw _ k_313) (fun _ h9 => h9) rfl hin rfl (by decide +kernel) rfl rfl (Nat.le_of_ble_eq_true rfl) d_M_init_38 (fun H locs hP hD hS => ?_)
  have hP : va_P D vwCl [(h0, .inr (2, [.int 0, .long 0, .long 0, .int 0, .int 0, .int 0, .int 1, .ref q12, .ref q20, .ref q28, .ref q36, .null, .null, .int 0, .int 0, .int 0])), (q12, .inl (K.1, 124, .inl (fun _ => 0))), (q20, .inl (K.1, 124, .inl (fun _ => 0))), (q28, .inl (K.1, 124, .inl (fun _ => 0))), (q36, .inl (K.1, 124, .inl (fun _ => 0)))] H := hP
  have hD : va_D A [(h0, .inr (2, [.int 0, .long 0, .long 0, .int 0, .int 0, .int 0, .int 1, .ref q12, .ref q20, .ref q28, .ref q36, .null, .null, .int 0, .int 0, .int 0])), (q12, .inl (K.1, 124, .inl (fun _ => 0))), (q20, .inl (K.1, 124, .inl (fun _ => 0))), (q28, .inl (K.1, 124, .inl (fun _ => 0))), (q36, .inl (K.1, 124, .inl (fun _ => 0)))] := hD
  refine lv_aload_n hx hb d_M_init_41 rfl (lv_at hl 0 rfl) ?_
  refine lv_bipush (v := 124) hx hb d_M_init_42 (by decide) ?_
  refine cx_newa (atype := .int) (ty := .int) (a0 := (124, .inl (fun _ => 0))) hx hb (hw _ k_99) rfl (fun _ h => h) hK 0 rfl hP hD hS hA (fun _ => rfl) (n := 124) (N9 := 124) (by decide) (by decide) (by decide) (Nat.le_of_ble_eq_true rfl) (Nat.le_of_ble_eq_true rfl) d_M_init_44 (fun q44 H hP hD hS => ?_)
  have hP : va_P D vwCl [(h0, .inr (2, [.int 0, .long 0, .long 0, .int 0, .int 0, .int 0, .int 1, .ref q12, .ref q20, .ref q28, .ref q36, .null, .null, .int 0, .int 0, .int 0])), (q12, .inl (K.1, 124, .inl (fun _ => 0))), (q20, .inl (K.1, 124, .inl (fun _ => 0))), (q28, .inl (K.1, 124, .inl (fun _ => 0))), (q36, .inl (K.1, 124, .inl (fun _ => 0))), (q44, .inl (K.1, 124, .inl (fun _ => 0)))] H := hP
  have hD : va_D A [(h0, .inr (2, [.int 0, .long 0, .long 0, .int 0, .int 0, .int 0, .int 1, .ref q12, .ref q20, .ref q28, .ref q36, .null, .null, .int 0, .int 0, .int 0])), (q12, .inl (K.1, 124, .inl (fun _ => 0))), (q20, .inl (K.1, 124, .inl (fun _ => 0))), (q28, .inl (K.1, 124, .inl (fun _ => 0))), (q36, .inl (K.1, 124, .inl (fun _ => 0))), (q44, .inl (K.1, 124, .inl (fun _ => 0)))] := hD
  refine va_putF (D := D) (ci := 2) (v := .ref q44) (ty := .array .int) (C := "BuildDrawerModel") (T := TM) (N := 16) hx hb hw inM tyM tyM_ok nmM hown hK hP hD hS 0 rfl rfl 11 (by decide) (hw _ k_314) (fun _ h9 => h9) rfl hin rfl (by decide +kernel) rfl rfl (Nat.le_of_ble_eq_true rfl) d_M_init_46 (fun H locs hP hD hS => ?_)
  have hP : va_P D vwCl [(h0, .inr (2, [.int 0, .long 0, .long 0, .int 0, .int 0, .int 0, .int 1, .ref q12, .ref q20, .ref q28, .ref q36, .ref q44, .null, .int 0, .int 0, .int 0])), (q12, .inl (K.1, 124, .inl (fun _ => 0))), (q20, .inl (K.1, 124, .inl (fun _ => 0))), (q28, .inl (K.1, 124, .inl (fun _ => 0))), (q36, .inl (K.1, 124, .inl (fun _ => 0))), (q44, .inl (K.1, 124, .inl (fun _ => 0)))] H := hP
  have hD : va_D A [(h0, .inr (2, [.int 0, .long 0, .long 0, .int 0, .int 0, .int 0, .int 1, .ref q12, .ref q20, .ref q28, .ref q36, .ref q44, .null, .int 0, .int 0, .int 0])), (q12, .inl (K.1, 124, .inl (fun _ => 0))), (q20, .inl (K.1, 124, .inl (fun _ => 0))), (q28, .inl (K.1, 124, .inl (fun _ => 0))), (q36, .inl (K.1, 124, .inl (fun _ => 0))), (q44, .inl (K.1, 124, .inl (fun _ => 0)))] := hD
  refine lv_aload_n hx hb d_M_init_49 rfl (lv_at hl 0 rfl) ?_
  refine lv_bipush (v := 62) hx hb d_M_init_50 (by decide) ?_
  refine cx_newa (atype := .boolean) (ty := .boolean) (a0 := (62, .inl (fun _ => 0))) hx hb (hw _ k_100) rfl (fun _ h => h) hK 1 rfl hP hD hS hA (fun _ => rfl) (n := 62) (N9 := 62) (by decide) (by decide) (by decide) (Nat.le_of_ble_eq_true rfl) (Nat.le_of_ble_eq_true rfl) d_M_init_52 (fun q52 H hP hD hS => ?_)
  have hP : va_P D vwCl [(h0, .inr (2, [.int 0, .long 0, .long 0, .int 0, .int 0, .int 0, .int 1, .ref q12, .ref q20, .ref q28, .ref q36, .ref q44, .null, .int 0, .int 0, .int 0])), (q12, .inl (K.1, 124, .inl (fun _ => 0))), (q20, .inl (K.1, 124, .inl (fun _ => 0))), (q28, .inl (K.1, 124, .inl (fun _ => 0))), (q36, .inl (K.1, 124, .inl (fun _ => 0))), (q44, .inl (K.1, 124, .inl (fun _ => 0))), (q52, .inl (K.2.1, 62, .inl (fun _ => 0)))] H := hP
  have hD : va_D A [(h0, .inr (2, [.int 0, .long 0, .long 0, .int 0, .int 0, .int 0, .int 1, .ref q12, .ref q20, .ref q28, .ref q36, .ref q44, .null, .int 0, .int 0, .int 0])), (q12, .inl (K.1, 124, .inl (fun _ => 0))), (q20, .inl (K.1, 124, .inl (fun _ => 0))), (q28, .inl (K.1, 124, .inl (fun _ => 0))), (q36, .inl (K.1, 124, .inl (fun _ => 0))), (q44, .inl (K.1, 124, .inl (fun _ => 0))), (q52, .inl (K.2.1, 62, .inl (fun _ => 0)))] := hD
  refine va_putF (D := D) (ci := 2) (v := .ref q52) (ty := .array .boolean) (C := "BuildDrawerModel") (T := TM) (N := 16) hx hb hw inM tyM tyM_ok nmM hown hK hP hD hS 0 rfl rfl 12 (by decide) (hw _ k_315) (fun _ h9 => h9) rfl hin rfl (by decide +kernel) rfl rfl (Nat.le_of_ble_eq_true rfl) d_M_init_54 (fun H locs hP hD hS => ?_)
  have hP : va_P D vwCl [(h0, .inr (2, [.int 0, .long 0, .long 0, .int 0, .int 0, .int 0, .int 1, .ref q12, .ref q20, .ref q28, .ref q36, .ref q44, .ref q52, .int 0, .int 0, .int 0])), (q12, .inl (K.1, 124, .inl (fun _ => 0))), (q20, .inl (K.1, 124, .inl (fun _ => 0))), (q28, .inl (K.1, 124, .inl (fun _ => 0))), (q36, .inl (K.1, 124, .inl (fun _ => 0))), (q44, .inl (K.1, 124, .inl (fun _ => 0))), (q52, .inl (K.2.1, 62, .inl (fun _ => 0)))] H := hP
  have hD : va_D A [(h0, .inr (2, [.int 0, .long 0, .long 0, .int 0, .int 0, .int 0, .int 1, .ref q12, .ref q20, .ref q28, .ref q36, .ref q44, .ref q52, .int 0, .int 0, .int 0])), (q12, .inl (K.1, 124, .inl (fun _ => 0))), (q20, .inl (K.1, 124, .inl (fun _ => 0))), (q28, .inl (K.1, 124, .inl (fun _ => 0))), (q36, .inl (K.1, 124, .inl (fun _ => 0))), (q44, .inl (K.1, 124, .inl (fun _ => 0))), (q52, .inl (K.2.1, 62, .inl (fun _ => 0)))] := hD
  refine lv_aload_n hx hb d_M_init_57 rfl (lv_at hl 0 rfl) ?_
  refine lv_lload_n hx hb d_M_init_58 rfl (lv_at hl 1 rfl) ?_
  refine va_putF (D := D) (ci := 2) (v := .long seed) (ty := .long) (C := "BuildDrawerModel") (T := TM) (N := 16) hx hb hw inM tyM tyM_ok nmM hown hK hP hD hS 0 rfl rfl 1 (by decide) (hw _ k_304) (fun _ h9 => h9) rfl hin rfl (by decide +kernel) rfl rfl (Nat.le_of_ble_eq_true rfl) d_M_init_59 (fun H locs hP hD hS => ?_)
  have hP : va_P D vwCl [(h0, .inr (2, [.int 0, .long seed, .long 0, .int 0, .int 0, .int 0, .int 1, .ref q12, .ref q20, .ref q28, .ref q36, .ref q44, .ref q52, .int 0, .int 0, .int 0])), (q12, .inl (K.1, 124, .inl (fun _ => 0))), (q20, .inl (K.1, 124, .inl (fun _ => 0))), (q28, .inl (K.1, 124, .inl (fun _ => 0))), (q36, .inl (K.1, 124, .inl (fun _ => 0))), (q44, .inl (K.1, 124, .inl (fun _ => 0))), (q52, .inl (K.2.1, 62, .inl (fun _ => 0)))] H := hP
  have hD : va_D A [(h0, .inr (2, [.int 0, .long seed, .long 0, .int 0, .int 0, .int 0, .int 1, .ref q12, .ref q20, .ref q28, .ref q36, .ref q44, .ref q52, .int 0, .int 0, .int 0])), (q12, .inl (K.1, 124, .inl (fun _ => 0))), (q20, .inl (K.1, 124, .inl (fun _ => 0))), (q28, .inl (K.1, 124, .inl (fun _ => 0))), (q36, .inl (K.1, 124, .inl (fun _ => 0))), (q44, .inl (K.1, 124, .inl (fun _ => 0))), (q52, .inl (K.2.1, 62, .inl (fun _ => 0)))] := hD
  have hP : va_P D vwCl [(h0, .inr (2, [.int 0, .long seed, .long 0, .int 0, .int 0, .int 0, .int 1, .ref q12, .ref q20, .ref q28, .ref q36, .ref q44, .ref q52, .int 0, .int 0, .int 0])), (q12, .inl (K.1, 124, .inl (fun _ => 0))), (q20, .inl (K.1, 124, .inl (fun _ => 0))), (q28, .inl (K.1, 124, .inl (fun _ => 0))), (q36, .inl (K.1, 124, .inl (fun _ => 0))), (q44, .inl (K.1, 124, .inl (fun _ => 0))), (q52, .inl (K.2.1, 62, .inl (fun _ => 0)))] H := hP
  obtain ⟨hP, hD⟩ := cx_perm (wN := [(h0, .inr (2, [.int 0, .long seed, .long 0, .int 0, .int 0, .int 0, .int 1, .ref q12, .ref q20, .ref q28, .ref q36, .ref q44, .ref q52, .int 0, .int 0, .int 0])), (q12, .inl (K.1, 124, .inl (fun _ => 0))), (q20, .inl (K.1, 124, .inl (fun _ => 0))), (q28, .inl (K.1, 124, .inl (fun _ => 0))), (q36, .inl (K.1, 124, .inl (fun _ => 0))), (q44, .inl (K.1, 124, .inl (fun _ => 0))), (q52, .inl (K.2.1, 62, .inl (fun _ => 0)))]) hP hD [0, 1, 2, 3, 4, 5, 6] rfl rfl (by decide)
  exact cx_vretu hx hb hr hlocks hK hP hD hS d_M_init_62 (fun k => [q12, q20, q28, q36, q44, q52].getD k 0) rfl
