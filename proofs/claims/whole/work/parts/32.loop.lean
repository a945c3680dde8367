set_option maxHeartbeats 40000000 in
set_option maxRecDepth 100000 in
/-- THE LAW's loop -/
theorem law_loop {p : Program} {e : Env} {s : State} {m : MethodId} {below : List Frame} {meth : Method} {c : Code} (l : Launch) {b L : Nat} {xs : Nat → Int32} (hL : L ≤ 2561) (C0 : lw_At p s m meth c b L xs) (G : cx_G) (D : va_G) (K : cx_KT) {A : Nat → Prop} (hAe : A = fun q => s.heap.size ≤ q) (hK : va_K D vwCl (cx_ty K) s) (hE : cx_E G A s s.heap) (seed : Int64) (x xM xO xS xA xB xN xK xL xT y yS yA yB yN yK yL : Nat) {H : Heap} {locs : List Loc} {ls : Array Slot} (i0 : Nat) (hi0 : i0 ≤ L + 5) (hI0 : lw_I D K A seed x xM xO xS xA xB xN xK xL xT y yS yA yB yN yK yL H) (hS0 : va_S A s.heap H locs) (hl0 : lv_has ls 4 [(3, .int (nI i0)), (1, .ref x), (2, .ref y), (0, .ref b)]) : W p l e room_1 s m #[Value.ref b] below meth c H locs 17 2094 (lw_Z below #[Value.ref b] s) (F0 m 30 ls []) := by
  obtain ⟨hx, hb, hr, hml, hown, hts, hX, hbl, hlocks, hgv⟩ := id C0
  have hw : ∀ w ∈ cw, w.before #[Value.ref b] s = true := fun w h => hts w (cw_tbl w h)
  have hown : s.vm.findClass "BuildDrawerLaw" = some m.cls := hown
  have hA : ∀ q : Nat, s.heap.size ≤ q → A q := fun q h => by rw [hAe]; exact h
  have hbA : ¬ A b := by rw [hAe]; exact Nat.not_le.mpr hbl
  refine cx_loop (pc := 30) (st := []) (fun (i : Nat) H locs ls => i ≤ L + 5 ∧ lw_I D K A seed x xM xO xS xA xB xN xK xL xT y yS yA yB yN yK yL H ∧ va_S A s.heap H locs ∧ lv_has ls 4 [(3, .int (nI i)), (1, .ref x), (2, .ref y), (0, .ref b)]) (fun (i : Nat) => L + 6 - i) (fun i H locs ls hI ih_30 => ?_) i0 ⟨hi0, hI0, hS0, hl0⟩
  obtain ⟨hi, ⟨cnt, vb, vs, tl, w, sk, pb, nu, so, fa, fb, ne, mk, w2, sk2, pb2, nu2, so2, fa2, fb2, ne2, mk2, fS, fA, fB, fN, fM, fL, fT, cd, mw, pl, wa, fo, se, gS, gA, gB, gN, gM, gL, hR, hP, hD⟩, hS, hl⟩ := hI
  obtain ⟨hcnt, hvs, eS, eA, eB, eN, eM, eL, hok, htl⟩ := id hR
  refine lv_iload_n hx hb d_L_law_30 rfl (lv_at hl 0 rfl) ?_
  refine lv_aload_n hx hb d_L_law_31 rfl (lv_at hl 3 rfl) ?_
  refine va_slen hx hb hX hbl hbA hS d_L_law_32 ?_
  refine lv_iconst (v := 5) hx hb d_L_law_33 (by decide) ?_
  refine lv_isub hx hb d_L_law_34 ?_
  refine lv_icmp_gt (tgt := 357) hx hb d_L_law_35 (by decide) (fun r_35 => ?_) (fun r_35 => ?_)
  · refine lv_iconst (v := 1) hx hb d_L_law_357 (by decide) ?_
    refine va_forget (fun q hq => by have h := hS.2.2 q hq; rw [hAe] at h; exact h) ?_
    refine W.widen (k := 17) (n := 2094) (Nat.le_of_ble_eq_true rfl) (Nat.le_of_ble_eq_true rfl) ?_
    exact lw_ret hx hb hr hlocks d_L_law_358
  have c_35 := mt (lw_cmp hL hi).mpr r_35
  refine lv_aload_n hx hb d_L_law_38 rfl (lv_at hl 3 rfl) ?_
  refine lv_iload_n hx hb d_L_law_39 rfl (lv_at hl 0 rfl) ?_
  refine va_sld hx hb hX hbl hbA hS (vp_in_nI (n := i) (by omega) (by omega)) d_L_law_40 ?_
  refine cx_ti (y := xs i) (by rw [nI_clamp (by omega)]) ?_
  refine lv_bipush (v := 7) hx hb d_L_law_41 (by decide) ?_
  refine lv_iand hx hb d_L_law_43 ?_
  obtain ⟨j9, hj9, ej9⟩ := pk_andE (xs i) 3 (m := 7) (by decide)
  refine cx_ti (y := nI j9) ej9 ?_
  rcases (show j9 = 0 ∨ j9 = 1 ∨ j9 = 2 ∨ j9 = 3 ∨ j9 = 4 ∨ j9 = 5 ∨ j9 = 6 ∨ j9 = 7 by omega) with rfl | rfl | rfl | rfl | rfl | rfl | rfl | rfl
  · refine lv_tableIn (tgt := 92) (off := 48) hx hb d_L_law_44 (by decide) (by decide) (by rfl) (by decide) ?_
    by_cases hcan : bd_can (xs (i + 1)) (xs (i + 2)) = 0
    · refine lv_aload_n hx hb d_L_law_92 rfl (lv_at hl 1 rfl) ?_
      refine lv_aload_n hx hb d_L_law_93 rfl (lv_at hl 3 rfl) ?_
      refine lv_iload_n hx hb d_L_law_94 rfl (lv_at hl 0 rfl) ?_
      refine lv_iconst (v := 1) hx hb d_L_law_95 (by decide) ?_
      refine lv_iadd hx hb d_L_law_96 ?_
      refine cx_ti (y := nI (i + 1)) (by exact nI_add i 1) ?_
      refine va_sld hx hb hX hbl hbA hS (vp_in_nI (n := i + 1) (by omega) (by omega)) d_L_law_97 ?_
      refine cx_ti (y := xs (i + 1)) (by rw [nI_clamp (by omega)]) ?_
      refine lv_aload_n hx hb d_L_law_98 rfl (lv_at hl 3 rfl) ?_
      refine lv_iload_n hx hb d_L_law_99 rfl (lv_at hl 0 rfl) ?_
      refine lv_iconst (v := 2) hx hb d_L_law_100 (by decide) ?_
      refine lv_iadd hx hb d_L_law_101 ?_
      refine cx_ti (y := nI (i + 2)) (by exact nI_add i 2) ?_
      refine va_sld hx hb hX hbl hbA hS (vp_in_nI (n := i + 2) (by omega) (by omega)) d_L_law_102 ?_
      refine cx_ti (y := xs (i + 2)) (by rw [nI_clamp (by omega)]) ?_
      refine cx_ci (wr := [(xM, .inr (0, [.long w, .int sk, .int pb, .int nu, .int so, .int fa, .int fb, .int ne, .int mk])), (xO, .inr (0, [.long w2, .int sk2, .int pb2, .int nu2, .int so2, .int fa2, .int fb2, .int ne2, .int mk2])), (xS, .inl (K.1, 62, .inl fS)), (xA, .inl (K.1, 62, .inl fA)), (xB, .inl (K.1, 62, .inl fB)), (xN, .inl (K.1, 62, .inl fN)), (xK, .inl (K.1, 62, .inl fM)), (xL, .inl (K.2.1, 62, .inl fL)), (xT, .inl (K.2.2, 992, .inl fT)), (y, .inr (2, [.int cd, .long seed, .long mw, .int (nI cnt), .int vb, .int pl, .int vs, .ref yS, .ref yA, .ref yB, .ref yN, .ref yK, .ref yL, .int wa, .int fo, .int se])), (yS, .inl (K.1, 124, .inl gS)), (yA, .inl (K.1, 124, .inl gA)), (yB, .inl (K.1, 124, .inl gB)), (yN, .inl (K.1, 124, .inl gN)), (yK, .inl (K.1, 124, .inl gM)), (yL, .inl (K.2.1, 62, .inl gL))]) (wN := [(x, .inr (1, [.long seed, .ref xM, .ref xO, .int (nI cnt), .ref xS, .ref xA, .ref xB, .ref xN, .ref xK, .ref xL, .int vb, .int vs, .ref xT, .int tl])), (xM, .inr (0, [.long w, .int sk, .int pb, .int nu, .int so, .int fa, .int fb, .int ne, .int mk])), (xO, .inr (0, [.long w2, .int sk2, .int pb2, .int nu2, .int so2, .int fa2, .int fb2, .int ne2, .int mk2])), (xS, .inl (K.1, 62, .inl fS)), (xA, .inl (K.1, 62, .inl fA)), (xB, .inl (K.1, 62, .inl fB)), (xN, .inl (K.1, 62, .inl fN)), (xK, .inl (K.1, 62, .inl fM)), (xL, .inl (K.2.1, 62, .inl fL)), (xT, .inl (K.2.2, 992, .inl fT)), (y, .inr (2, [.int cd, .long seed, .long mw, .int (nI cnt), .int vb, .int pl, .int vs, .ref yS, .ref yA, .ref yB, .ref yN, .ref yK, .ref yL, .int wa, .int fo, .int se])), (yS, .inl (K.1, 124, .inl gS)), (yA, .inl (K.1, 124, .inl gA)), (yB, .inl (K.1, 124, .inl gB)), (yN, .inl (K.1, 124, .inl gN)), (yK, .inl (K.1, 124, .inl gM)), (yL, .inl (K.2.1, 62, .inl gL))]) (va_runV (As := [.int (xs (i + 1)), .int (xs (i + 2))]) (rest := []) ⟨hx, hb, hml, hown, hw⟩ (c_B_drawN l G D K H.size x seed xM xO cnt xS xA xB xN xK xL vb vs xT tl (xs (i + 1)) (xs (i + 2)) hcan) (cwV 2 hw (cx_gV k_102 k_103 k_104 k_1 k_105) rfl rfl rfl (by decide +kernel) ⟨Nat.le_of_ble_eq_true rfl, Nat.le_of_ble_eq_true rfl⟩) (cx_preV (q0 := 0) (ci := 1) hK hP hD hS hA hE rfl rfl [0] rfl rfl (by decide)) rfl rfl hl.1 rfl (lv_room (Nat.le_of_ble_eq_true rfl)) d_L_law_103 ⟨Nat.le_of_ble_eq_true rfl, Nat.le_of_ble_eq_true rfl⟩) hP hD hS hA [0] [1, 2, 3, 4, 5, 6, 7, 8, 9, 10, 11, 12, 13, 14, 15, 16] rfl rfl (by decide) (by decide) [16, 0, 1, 2, 3, 4, 5, 6, 7, 8, 9, 10, 11, 12, 13, 14, 15] rfl rfl (by decide) (fun H locs hP hD hS => ?_)
      refine lv_aload_n hx hb d_L_law_106 rfl (lv_at hl 2 rfl) ?_
      refine lv_aload_n hx hb d_L_law_107 rfl (lv_at hl 3 rfl) ?_
      refine lv_iload_n hx hb d_L_law_108 rfl (lv_at hl 0 rfl) ?_
      refine lv_iconst (v := 1) hx hb d_L_law_109 (by decide) ?_
      refine lv_iadd hx hb d_L_law_110 ?_
      refine cx_ti (y := nI (i + 1)) (by exact nI_add i 1) ?_
      refine va_sld hx hb hX hbl hbA hS (vp_in_nI (n := i + 1) (by omega) (by omega)) d_L_law_111 ?_
      refine cx_ti (y := xs (i + 1)) (by rw [nI_clamp (by omega)]) ?_
      refine lv_aload_n hx hb d_L_law_112 rfl (lv_at hl 3 rfl) ?_
      refine lv_iload_n hx hb d_L_law_113 rfl (lv_at hl 0 rfl) ?_
      refine lv_iconst (v := 2) hx hb d_L_law_114 (by decide) ?_
      refine lv_iadd hx hb d_L_law_115 ?_
      refine cx_ti (y := nI (i + 2)) (by exact nI_add i 2) ?_
      refine va_sld hx hb hX hbl hbA hS (vp_in_nI (n := i + 2) (by omega) (by omega)) d_L_law_116 ?_
      refine cx_ti (y := xs (i + 2)) (by rw [nI_clamp (by omega)]) ?_
      refine cx_ci (wr := [(x, .inr (1, [.long seed, .ref xM, .ref xO, .int (nI cnt), .ref xS, .ref xA, .ref xB, .ref xN, .ref xK, .ref xL, .int vb, .int vs, .ref xT, .int tl])), (xM, .inr (0, [.long w, .int sk, .int pb, .int nu, .int so, .int fa, .int fb, .int ne, .int mk])), (xO, .inr (0, [.long w2, .int sk2, .int pb2, .int nu2, .int so2, .int fa2, .int fb2, .int ne2, .int mk2])), (xS, .inl (K.1, 62, .inl fS)), (xA, .inl (K.1, 62, .inl fA)), (xB, .inl (K.1, 62, .inl fB)), (xN, .inl (K.1, 62, .inl fN)), (xK, .inl (K.1, 62, .inl fM)), (xL, .inl (K.2.1, 62, .inl fL)), (xT, .inl (K.2.2, 992, .inl fT)), (yS, .inl (K.1, 124, .inl gS)), (yA, .inl (K.1, 124, .inl gA)), (yB, .inl (K.1, 124, .inl gB)), (yN, .inl (K.1, 124, .inl gN)), (yK, .inl (K.1, 124, .inl gM)), (yL, .inl (K.2.1, 62, .inl gL))]) (wN := [(x, .inr (1, [.long seed, .ref xM, .ref xO, .int (nI cnt), .ref xS, .ref xA, .ref xB, .ref xN, .ref xK, .ref xL, .int vb, .int vs, .ref xT, .int tl])), (xM, .inr (0, [.long w, .int sk, .int pb, .int nu, .int so, .int fa, .int fb, .int ne, .int mk])), (xO, .inr (0, [.long w2, .int sk2, .int pb2, .int nu2, .int so2, .int fa2, .int fb2, .int ne2, .int mk2])), (xS, .inl (K.1, 62, .inl fS)), (xA, .inl (K.1, 62, .inl fA)), (xB, .inl (K.1, 62, .inl fB)), (xN, .inl (K.1, 62, .inl fN)), (xK, .inl (K.1, 62, .inl fM)), (xL, .inl (K.2.1, 62, .inl fL)), (xT, .inl (K.2.2, 992, .inl fT)), (y, .inr (2, [.int 0, .long seed, .long mw, .int (nI cnt), .int vb, .int pl, .int vs, .ref yS, .ref yA, .ref yB, .ref yN, .ref yK, .ref yL, .int wa, .int fo, .int se])), (yS, .inl (K.1, 124, .inl gS)), (yA, .inl (K.1, 124, .inl gA)), (yB, .inl (K.1, 124, .inl gB)), (yN, .inl (K.1, 124, .inl gN)), (yK, .inl (K.1, 124, .inl gM)), (yL, .inl (K.2.1, 62, .inl gL))]) (va_runV (As := [.int (xs (i + 1)), .int (xs (i + 2))]) (rest := [.int (-2)]) ⟨hx, hb, hml, hown, hw⟩ (c_M_drawN l G D K H.size y cd seed mw cnt vb pl vs yS yA yB yN yK yL wa fo se (xs (i + 1)) (xs (i + 2)) hcan) (cwV 2 hw (cx_gV k_352 k_353 k_354 k_3 k_355) rfl rfl rfl (by decide +kernel) ⟨Nat.le_of_ble_eq_true rfl, Nat.le_of_ble_eq_true rfl⟩) (cx_preV (q0 := 10) (ci := 2) hK hP hD hS hA hE rfl rfl [10] rfl rfl (by decide)) rfl rfl hl.1 rfl (lv_room (Nat.le_of_ble_eq_true rfl)) d_L_law_117 ⟨Nat.le_of_ble_eq_true rfl, Nat.le_of_ble_eq_true rfl⟩) hP hD hS hA [10] [0, 1, 2, 3, 4, 5, 6, 7, 8, 9, 11, 12, 13, 14, 15, 16] rfl rfl (by decide) (by decide) [0, 1, 2, 3, 4, 5, 6, 7, 8, 9, 16, 10, 11, 12, 13, 14, 15] rfl rfl (by decide) (fun H locs hP hD hS => ?_)
      refine lv_icmp_eq (tgt := 351) hx hb d_L_law_120 (by decide) (fun r_120 => ?_) (fun r_120 => ?_)
      · have c_120 := r_120
        refine lv_iinc (v := nI (i + 5)) (lv' := [(3, .int (nI (i + 5))), (1, .ref x), (2, .ref y), (0, .ref b)]) hx hb d_L_law_351 hl (k := 0) rfl (by exact nI_add i 5) (by decide) rfl (fun ls hl => ?_)
        refine lv_goto (tgt := 30) hx hb d_L_law_354 (by decide) ?_
        exact ih_30 (i + 5) _ _ _ ⟨by omega, ⟨cnt, vb, vs, tl, w, sk, pb, nu, so, fa, fb, ne, mk, w2, sk2, pb2, nu2, so2, fa2, fb2, ne2, mk2, fS, fA, fB, fN, fM, fL, fT, 0, mw, pl, wa, fo, se, gS, gA, gB, gN, gM, gL, hR, hP, hD⟩, hS, lv_sub hl [0, 1, 2, 3] rfl⟩ (by omega)
      · have c_120 := r_120
        exact absurd (rfl) r_120
    · obtain ⟨kk, zz, hkk, hzz, e1, e2⟩ := bd_can_of hcan
      refine lv_aload_n hx hb d_L_law_92 rfl (lv_at hl 1 rfl) ?_
      refine lv_aload_n hx hb d_L_law_93 rfl (lv_at hl 3 rfl) ?_
      refine lv_iload_n hx hb d_L_law_94 rfl (lv_at hl 0 rfl) ?_
      refine lv_iconst (v := 1) hx hb d_L_law_95 (by decide) ?_
      refine lv_iadd hx hb d_L_law_96 ?_
      refine cx_ti (y := nI (i + 1)) (by exact nI_add i 1) ?_
      refine va_sld hx hb hX hbl hbA hS (vp_in_nI (n := i + 1) (by omega) (by omega)) d_L_law_97 ?_
      refine cx_ti (y := nI kk) (by rw [nI_clamp (by omega)]; exact e1) ?_
      refine lv_aload_n hx hb d_L_law_98 rfl (lv_at hl 3 rfl) ?_
      refine lv_iload_n hx hb d_L_law_99 rfl (lv_at hl 0 rfl) ?_
      refine lv_iconst (v := 2) hx hb d_L_law_100 (by decide) ?_
      refine lv_iadd hx hb d_L_law_101 ?_
      refine cx_ti (y := nI (i + 2)) (by exact nI_add i 2) ?_
      refine va_sld hx hb hX hbl hbA hS (vp_in_nI (n := i + 2) (by omega) (by omega)) d_L_law_102 ?_
      refine cx_ti (y := nI zz) (by rw [nI_clamp (by omega)]; exact e2) ?_
      refine cx_ci (wr := [(xO, .inr (0, [.long w2, .int sk2, .int pb2, .int nu2, .int so2, .int fa2, .int fb2, .int ne2, .int mk2])), (xT, .inl (K.2.2, 992, .inl fT)), (y, .inr (2, [.int cd, .long seed, .long mw, .int (nI cnt), .int vb, .int pl, .int vs, .ref yS, .ref yA, .ref yB, .ref yN, .ref yK, .ref yL, .int wa, .int fo, .int se])), (yS, .inl (K.1, 124, .inl gS)), (yA, .inl (K.1, 124, .inl gA)), (yB, .inl (K.1, 124, .inl gB)), (yN, .inl (K.1, 124, .inl gN)), (yK, .inl (K.1, 124, .inl gM)), (yL, .inl (K.2.1, 62, .inl gL))]) (wN := [(x, .inr (1, [.long seed, .ref xM, .ref xO, .int (nI (zz + 2)), .ref xS, .ref xA, .ref xB, .ref xN, .ref xK, .ref xL, .int vb, .int vs, .ref xT, .int (-1)])), (xM, .inr (0, [.long (bd_gW seed kk zz (zz + 2)), .int (bd_sk kk), .int (bd_pb seed (nI kk) (nI zz)), .int (nI (zz + 2) - 1), .int (bd_last so (bd_gS seed kk zz) (zz + 2)), .int (bd_last fa (bd_gA seed kk zz) (zz + 2)), .int (bd_last fb (bd_gB seed kk zz) (zz + 2)), .int (bd_last ne (bd_gN seed kk zz) (zz + 2)), .int (bd_last mk (bd_gM seed kk zz) (zz + 2))])), (xO, .inr (0, [.long w2, .int sk2, .int pb2, .int nu2, .int so2, .int fa2, .int fb2, .int ne2, .int mk2])), (xS, .inl (K.1, 62, .inl (bd_fil (bd_gS seed kk zz) (zz + 2) fS))), (xA, .inl (K.1, 62, .inl (bd_fil (bd_gA seed kk zz) (zz + 2) fA))), (xB, .inl (K.1, 62, .inl (bd_fil (bd_gB seed kk zz) (zz + 2) fB))), (xN, .inl (K.1, 62, .inl (bd_fil (bd_gN seed kk zz) (zz + 2) fN))), (xK, .inl (K.1, 62, .inl (bd_fil (bd_gM seed kk zz) (zz + 2) fM))), (xL, .inl (K.2.1, 62, .inl (bd_all (zz + 2) fL))), (xT, .inl (K.2.2, 992, .inl fT)), (y, .inr (2, [.int cd, .long seed, .long mw, .int (nI cnt), .int vb, .int pl, .int vs, .ref yS, .ref yA, .ref yB, .ref yN, .ref yK, .ref yL, .int wa, .int fo, .int se])), (yS, .inl (K.1, 124, .inl gS)), (yA, .inl (K.1, 124, .inl gA)), (yB, .inl (K.1, 124, .inl gB)), (yN, .inl (K.1, 124, .inl gN)), (yK, .inl (K.1, 124, .inl gM)), (yL, .inl (K.2.1, 62, .inl gL))]) (va_runV (As := [.int (nI kk), .int (nI zz)]) (rest := []) ⟨hx, hb, hml, hown, hw⟩ (c_B_draw l G D K H.size x seed xM xO cnt xS xA xB xN xK xL vb vs xT tl w sk pb nu so fa fb ne mk fS fA fB fN fM fL kk zz (by omega) (by omega)) (cwV 2 hw (cx_gV k_102 k_103 k_104 k_1 k_105) rfl rfl rfl (by decide +kernel) ⟨Nat.le_of_ble_eq_true rfl, Nat.le_of_ble_eq_true rfl⟩) (cx_preV (q0 := 0) (ci := 1) hK hP hD hS hA hE rfl rfl [0, 1, 3, 4, 5, 6, 7, 8] rfl rfl (by decide)) rfl rfl hl.1 rfl (lv_room (Nat.le_of_ble_eq_true rfl)) d_L_law_103 ⟨Nat.le_of_ble_eq_true rfl, Nat.le_of_ble_eq_true rfl⟩) hP hD hS hA [0, 1, 3, 4, 5, 6, 7, 8] [2, 9, 10, 11, 12, 13, 14, 15, 16] rfl rfl (by decide) (by decide) [9, 10, 0, 11, 12, 13, 14, 15, 16, 1, 2, 3, 4, 5, 6, 7, 8] rfl rfl (by decide) (fun H locs hP hD hS => ?_)
      refine lv_aload_n hx hb d_L_law_106 rfl (lv_at hl 2 rfl) ?_
      refine lv_aload_n hx hb d_L_law_107 rfl (lv_at hl 3 rfl) ?_
      refine lv_iload_n hx hb d_L_law_108 rfl (lv_at hl 0 rfl) ?_
      refine lv_iconst (v := 1) hx hb d_L_law_109 (by decide) ?_
      refine lv_iadd hx hb d_L_law_110 ?_
      refine cx_ti (y := nI (i + 1)) (by exact nI_add i 1) ?_
      refine va_sld hx hb hX hbl hbA hS (vp_in_nI (n := i + 1) (by omega) (by omega)) d_L_law_111 ?_
      refine cx_ti (y := nI kk) (by rw [nI_clamp (by omega)]; exact e1) ?_
      refine lv_aload_n hx hb d_L_law_112 rfl (lv_at hl 3 rfl) ?_
      refine lv_iload_n hx hb d_L_law_113 rfl (lv_at hl 0 rfl) ?_
      refine lv_iconst (v := 2) hx hb d_L_law_114 (by decide) ?_
      refine lv_iadd hx hb d_L_law_115 ?_
      refine cx_ti (y := nI (i + 2)) (by exact nI_add i 2) ?_
      refine va_sld hx hb hX hbl hbA hS (vp_in_nI (n := i + 2) (by omega) (by omega)) d_L_law_116 ?_
      refine cx_ti (y := nI zz) (by rw [nI_clamp (by omega)]; exact e2) ?_
      refine cx_ci (wr := [(x, .inr (1, [.long seed, .ref xM, .ref xO, .int (nI (zz + 2)), .ref xS, .ref xA, .ref xB, .ref xN, .ref xK, .ref xL, .int vb, .int vs, .ref xT, .int (-1)])), (xM, .inr (0, [.long (bd_gW seed kk zz (zz + 2)), .int (bd_sk kk), .int (bd_pb seed (nI kk) (nI zz)), .int (nI (zz + 2) - 1), .int (bd_last so (bd_gS seed kk zz) (zz + 2)), .int (bd_last fa (bd_gA seed kk zz) (zz + 2)), .int (bd_last fb (bd_gB seed kk zz) (zz + 2)), .int (bd_last ne (bd_gN seed kk zz) (zz + 2)), .int (bd_last mk (bd_gM seed kk zz) (zz + 2))])), (xO, .inr (0, [.long w2, .int sk2, .int pb2, .int nu2, .int so2, .int fa2, .int fb2, .int ne2, .int mk2])), (xS, .inl (K.1, 62, .inl (bd_fil (bd_gS seed kk zz) (zz + 2) fS))), (xA, .inl (K.1, 62, .inl (bd_fil (bd_gA seed kk zz) (zz + 2) fA))), (xB, .inl (K.1, 62, .inl (bd_fil (bd_gB seed kk zz) (zz + 2) fB))), (xN, .inl (K.1, 62, .inl (bd_fil (bd_gN seed kk zz) (zz + 2) fN))), (xK, .inl (K.1, 62, .inl (bd_fil (bd_gM seed kk zz) (zz + 2) fM))), (xL, .inl (K.2.1, 62, .inl (bd_all (zz + 2) fL))), (xT, .inl (K.2.2, 992, .inl fT))]) (wN := [(x, .inr (1, [.long seed, .ref xM, .ref xO, .int (nI (zz + 2)), .ref xS, .ref xA, .ref xB, .ref xN, .ref xK, .ref xL, .int vb, .int vs, .ref xT, .int (-1)])), (xM, .inr (0, [.long (bd_gW seed kk zz (zz + 2)), .int (bd_sk kk), .int (bd_pb seed (nI kk) (nI zz)), .int (nI (zz + 2) - 1), .int (bd_last so (bd_gS seed kk zz) (zz + 2)), .int (bd_last fa (bd_gA seed kk zz) (zz + 2)), .int (bd_last fb (bd_gB seed kk zz) (zz + 2)), .int (bd_last ne (bd_gN seed kk zz) (zz + 2)), .int (bd_last mk (bd_gM seed kk zz) (zz + 2))])), (xO, .inr (0, [.long w2, .int sk2, .int pb2, .int nu2, .int so2, .int fa2, .int fb2, .int ne2, .int mk2])), (xS, .inl (K.1, 62, .inl (bd_fil (bd_gS seed kk zz) (zz + 2) fS))), (xA, .inl (K.1, 62, .inl (bd_fil (bd_gA seed kk zz) (zz + 2) fA))), (xB, .inl (K.1, 62, .inl (bd_fil (bd_gB seed kk zz) (zz + 2) fB))), (xN, .inl (K.1, 62, .inl (bd_fil (bd_gN seed kk zz) (zz + 2) fN))), (xK, .inl (K.1, 62, .inl (bd_fil (bd_gM seed kk zz) (zz + 2) fM))), (xL, .inl (K.2.1, 62, .inl (bd_all (zz + 2) fL))), (xT, .inl (K.2.2, 992, .inl fT)), (y, .inr (2, [.int 0, .long seed, .long (bd_gW seed kk zz (zz + 2)), .int (nI (zz + 2)), .int vb, .int (bd_pl seed (nI kk) (nI zz)), .int vs, .ref yS, .ref yA, .ref yB, .ref yN, .ref yK, .ref yL, .int wa, .int fo, .int se])), (yS, .inl (K.1, 124, .inl (bd_fio (bd_gS seed kk zz) 0 (zz + 2) gS))), (yA, .inl (K.1, 124, .inl (bd_fio (bd_gA seed kk zz) 0 (zz + 2) gA))), (yB, .inl (K.1, 124, .inl (bd_fio (bd_gB seed kk zz) 0 (zz + 2) gB))), (yN, .inl (K.1, 124, .inl (bd_fio (bd_gN seed kk zz) 0 (zz + 2) gN))), (yK, .inl (K.1, 124, .inl (bd_fio (bd_gM seed kk zz) 0 (zz + 2) gM))), (yL, .inl (K.2.1, 62, .inl (bd_all (zz + 2) gL)))]) (va_runV (As := [.int (nI kk), .int (nI zz)]) (rest := [.int (nI (zz + 2))]) ⟨hx, hb, hml, hown, hw⟩ (c_M_draw l G D K H.size y cd seed mw cnt vb pl vs yS yA yB yN yK yL wa fo se gS gA gB gN gM gL kk zz (by omega) (by omega)) (cwV 2 hw (cx_gV k_352 k_353 k_354 k_3 k_355) rfl rfl rfl (by decide +kernel) ⟨Nat.le_of_ble_eq_true rfl, Nat.le_of_ble_eq_true rfl⟩) (cx_preV (q0 := 10) (ci := 2) hK hP hD hS hA hE rfl rfl [10, 11, 12, 13, 14, 15, 16] rfl rfl (by decide)) rfl rfl hl.1 rfl (lv_room (Nat.le_of_ble_eq_true rfl)) d_L_law_117 ⟨Nat.le_of_ble_eq_true rfl, Nat.le_of_ble_eq_true rfl⟩) hP hD hS hA [10, 11, 12, 13, 14, 15, 16] [0, 1, 2, 3, 4, 5, 6, 7, 8, 9] rfl rfl (by decide) (by decide) [0, 1, 2, 3, 4, 5, 6, 7, 8, 9, 10, 11, 12, 13, 14, 15, 16] rfl rfl (by decide) (fun H locs hP hD hS => ?_)
      refine lv_icmp_eq (tgt := 351) hx hb d_L_law_120 (by decide) (fun r_120 => ?_) (fun r_120 => ?_)
      · have c_120 := r_120
        refine lv_iinc (v := nI (i + 5)) (lv' := [(3, .int (nI (i + 5))), (1, .ref x), (2, .ref y), (0, .ref b)]) hx hb d_L_law_351 hl (k := 0) rfl (by exact nI_add i 5) (by decide) rfl (fun ls hl => ?_)
        refine lv_goto (tgt := 30) hx hb d_L_law_354 (by decide) ?_
        exact ih_30 (i + 5) _ _ _ ⟨by omega, ⟨(zz + 2), vb, vs, (-1), (bd_gW seed kk zz (zz + 2)), (bd_sk kk), (bd_pb seed (nI kk) (nI zz)), (nI (zz + 2) - 1), (bd_last so (bd_gS seed kk zz) (zz + 2)), (bd_last fa (bd_gA seed kk zz) (zz + 2)), (bd_last fb (bd_gB seed kk zz) (zz + 2)), (bd_last ne (bd_gN seed kk zz) (zz + 2)), (bd_last mk (bd_gM seed kk zz) (zz + 2)), w2, sk2, pb2, nu2, so2, fa2, fb2, ne2, mk2, (bd_fil (bd_gS seed kk zz) (zz + 2) fS), (bd_fil (bd_gA seed kk zz) (zz + 2) fA), (bd_fil (bd_gB seed kk zz) (zz + 2) fB), (bd_fil (bd_gN seed kk zz) (zz + 2) fN), (bd_fil (bd_gM seed kk zz) (zz + 2) fM), (bd_all (zz + 2) fL), fT, 0, (bd_gW seed kk zz (zz + 2)), (bd_pl seed (nI kk) (nI zz)), wa, fo, se, (bd_fio (bd_gS seed kk zz) 0 (zz + 2) gS), (bd_fio (bd_gA seed kk zz) 0 (zz + 2) gA), (bd_fio (bd_gB seed kk zz) 0 (zz + 2) gB), (bd_fio (bd_gN seed kk zz) 0 (zz + 2) gN), (bd_fio (bd_gM seed kk zz) 0 (zz + 2) gM), (bd_all (zz + 2) gL), ⟨by omega, hvs, bd_fio_c0, bd_fio_c0, bd_fio_c0, bd_fio_c0, bd_fio_c0, bd_fil_c, fun j hj => by rw [bd_fil_at hj, bd_fil_at hj, bd_fil_at hj, bd_fil_at hj]; exact bd_ok_g hkk (by omega), Or.inl rfl⟩, hP, hD⟩, hS, lv_sub hl [0, 1, 2, 3] rfl⟩ (by omega)
      · have c_120 := r_120
        exact absurd (rfl) r_120
  · refine lv_tableIn (tgt := 125) (off := 81) hx hb d_L_law_44 (by decide) (by decide) (by rfl) (by decide) ?_
    by_cases hip : bd_ip cnt (xs (i + 1)) = 0
    · refine lv_aload_n hx hb d_L_law_125 rfl (lv_at hl 1 rfl) ?_
      refine lv_aload_n hx hb d_L_law_126 rfl (lv_at hl 3 rfl) ?_
      refine lv_iload_n hx hb d_L_law_127 rfl (lv_at hl 0 rfl) ?_
      refine lv_iconst (v := 1) hx hb d_L_law_128 (by decide) ?_
      refine lv_iadd hx hb d_L_law_129 ?_
      refine cx_ti (y := nI (i + 1)) (by exact nI_add i 1) ?_
      refine va_sld hx hb hX hbl hbA hS (vp_in_nI (n := i + 1) (by omega) (by omega)) d_L_law_130 ?_
      refine cx_ti (y := xs (i + 1)) (by rw [nI_clamp (by omega)]) ?_
      refine lv_aload_n hx hb d_L_law_131 rfl (lv_at hl 3 rfl) ?_
      refine lv_iload_n hx hb d_L_law_132 rfl (lv_at hl 0 rfl) ?_
      refine lv_iconst (v := 2) hx hb d_L_law_133 (by decide) ?_
      refine lv_iadd hx hb d_L_law_134 ?_
      refine cx_ti (y := nI (i + 2)) (by exact nI_add i 2) ?_
      refine va_sld hx hb hX hbl hbA hS (vp_in_nI (n := i + 2) (by omega) (by omega)) d_L_law_135 ?_
      refine cx_ti (y := xs (i + 2)) (by rw [nI_clamp (by omega)]) ?_
      refine cx_cl (wr := [(xM, .inr (0, [.long w, .int sk, .int pb, .int nu, .int so, .int fa, .int fb, .int ne, .int mk])), (xO, .inr (0, [.long w2, .int sk2, .int pb2, .int nu2, .int so2, .int fa2, .int fb2, .int ne2, .int mk2])), (xS, .inl (K.1, 62, .inl fS)), (xA, .inl (K.1, 62, .inl fA)), (xB, .inl (K.1, 62, .inl fB)), (xN, .inl (K.1, 62, .inl fN)), (xK, .inl (K.1, 62, .inl fM)), (xL, .inl (K.2.1, 62, .inl fL)), (xT, .inl (K.2.2, 992, .inl fT)), (y, .inr (2, [.int cd, .long seed, .long mw, .int (nI cnt), .int vb, .int pl, .int vs, .ref yS, .ref yA, .ref yB, .ref yN, .ref yK, .ref yL, .int wa, .int fo, .int se])), (yS, .inl (K.1, 124, .inl gS)), (yA, .inl (K.1, 124, .inl gA)), (yB, .inl (K.1, 124, .inl gB)), (yN, .inl (K.1, 124, .inl gN)), (yK, .inl (K.1, 124, .inl gM)), (yL, .inl (K.2.1, 62, .inl gL))]) (wN := [(x, .inr (1, [.long seed, .ref xM, .ref xO, .int (nI cnt), .ref xS, .ref xA, .ref xB, .ref xN, .ref xK, .ref xL, .int vb, .int vs, .ref xT, .int tl])), (xM, .inr (0, [.long w, .int sk, .int pb, .int nu, .int so, .int fa, .int fb, .int ne, .int mk])), (xO, .inr (0, [.long w2, .int sk2, .int pb2, .int nu2, .int so2, .int fa2, .int fb2, .int ne2, .int mk2])), (xS, .inl (K.1, 62, .inl fS)), (xA, .inl (K.1, 62, .inl fA)), (xB, .inl (K.1, 62, .inl fB)), (xN, .inl (K.1, 62, .inl fN)), (xK, .inl (K.1, 62, .inl fM)), (xL, .inl (K.2.1, 62, .inl fL)), (xT, .inl (K.2.2, 992, .inl fT)), (y, .inr (2, [.int cd, .long seed, .long mw, .int (nI cnt), .int vb, .int pl, .int vs, .ref yS, .ref yA, .ref yB, .ref yN, .ref yK, .ref yL, .int wa, .int fo, .int se])), (yS, .inl (K.1, 124, .inl gS)), (yA, .inl (K.1, 124, .inl gA)), (yB, .inl (K.1, 124, .inl gB)), (yN, .inl (K.1, 124, .inl gN)), (yK, .inl (K.1, 124, .inl gM)), (yL, .inl (K.2.1, 62, .inl gL))]) (va_runV (As := [.int (xs (i + 1)), .int (xs (i + 2))]) (rest := []) ⟨hx, hb, hml, hown, hw⟩ (c_B_partN l G D K H.size x seed xM xO cnt xS xA xB xN xK xL vb vs xT tl (xs (i + 1)) (xs (i + 2)) hip) (cwV 2 hw (cx_gV k_149 k_150 k_151 k_1 k_152) rfl rfl rfl (by decide +kernel) ⟨Nat.le_of_ble_eq_true rfl, Nat.le_of_ble_eq_true rfl⟩) (cx_preV (q0 := 0) (ci := 1) hK hP hD hS hA hE rfl rfl [0] rfl rfl (by decide)) rfl rfl hl.1 rfl (lv_room (Nat.le_of_ble_eq_true rfl)) d_L_law_136 ⟨Nat.le_of_ble_eq_true rfl, Nat.le_of_ble_eq_true rfl⟩) hP hD hS hA [0] [1, 2, 3, 4, 5, 6, 7, 8, 9, 10, 11, 12, 13, 14, 15, 16] rfl rfl (by decide) (by decide) [16, 0, 1, 2, 3, 4, 5, 6, 7, 8, 9, 10, 11, 12, 13, 14, 15] rfl rfl (by decide) (fun H locs hP hD hS => ?_)
      refine lv_aload_n hx hb d_L_law_139 rfl (lv_at hl 2 rfl) ?_
      refine lv_aload_n hx hb d_L_law_140 rfl (lv_at hl 3 rfl) ?_
      refine lv_iload_n hx hb d_L_law_141 rfl (lv_at hl 0 rfl) ?_
      refine lv_iconst (v := 1) hx hb d_L_law_142 (by decide) ?_
      refine lv_iadd hx hb d_L_law_143 ?_
      refine cx_ti (y := nI (i + 1)) (by exact nI_add i 1) ?_
      refine va_sld hx hb hX hbl hbA hS (vp_in_nI (n := i + 1) (by omega) (by omega)) d_L_law_144 ?_
      refine cx_ti (y := xs (i + 1)) (by rw [nI_clamp (by omega)]) ?_
      refine lv_aload_n hx hb d_L_law_145 rfl (lv_at hl 3 rfl) ?_
      refine lv_iload_n hx hb d_L_law_146 rfl (lv_at hl 0 rfl) ?_
      refine lv_iconst (v := 2) hx hb d_L_law_147 (by decide) ?_
      refine lv_iadd hx hb d_L_law_148 ?_
      refine cx_ti (y := nI (i + 2)) (by exact nI_add i 2) ?_
      refine va_sld hx hb hX hbl hbA hS (vp_in_nI (n := i + 2) (by omega) (by omega)) d_L_law_149 ?_
      refine cx_ti (y := xs (i + 2)) (by rw [nI_clamp (by omega)]) ?_
      refine cx_cl (wr := [(x, .inr (1, [.long seed, .ref xM, .ref xO, .int (nI cnt), .ref xS, .ref xA, .ref xB, .ref xN, .ref xK, .ref xL, .int vb, .int vs, .ref xT, .int tl])), (xM, .inr (0, [.long w, .int sk, .int pb, .int nu, .int so, .int fa, .int fb, .int ne, .int mk])), (xO, .inr (0, [.long w2, .int sk2, .int pb2, .int nu2, .int so2, .int fa2, .int fb2, .int ne2, .int mk2])), (xS, .inl (K.1, 62, .inl fS)), (xA, .inl (K.1, 62, .inl fA)), (xB, .inl (K.1, 62, .inl fB)), (xN, .inl (K.1, 62, .inl fN)), (xK, .inl (K.1, 62, .inl fM)), (xL, .inl (K.2.1, 62, .inl fL)), (xT, .inl (K.2.2, 992, .inl fT)), (yS, .inl (K.1, 124, .inl gS)), (yA, .inl (K.1, 124, .inl gA)), (yB, .inl (K.1, 124, .inl gB)), (yN, .inl (K.1, 124, .inl gN)), (yK, .inl (K.1, 124, .inl gM)), (yL, .inl (K.2.1, 62, .inl gL))]) (wN := [(x, .inr (1, [.long seed, .ref xM, .ref xO, .int (nI cnt), .ref xS, .ref xA, .ref xB, .ref xN, .ref xK, .ref xL, .int vb, .int vs, .ref xT, .int tl])), (xM, .inr (0, [.long w, .int sk, .int pb, .int nu, .int so, .int fa, .int fb, .int ne, .int mk])), (xO, .inr (0, [.long w2, .int sk2, .int pb2, .int nu2, .int so2, .int fa2, .int fb2, .int ne2, .int mk2])), (xS, .inl (K.1, 62, .inl fS)), (xA, .inl (K.1, 62, .inl fA)), (xB, .inl (K.1, 62, .inl fB)), (xN, .inl (K.1, 62, .inl fN)), (xK, .inl (K.1, 62, .inl fM)), (xL, .inl (K.2.1, 62, .inl fL)), (xT, .inl (K.2.2, 992, .inl fT)), (y, .inr (2, [.int 0, .long seed, .long mw, .int (nI cnt), .int vb, .int pl, .int vs, .ref yS, .ref yA, .ref yB, .ref yN, .ref yK, .ref yL, .int wa, .int fo, .int se])), (yS, .inl (K.1, 124, .inl gS)), (yA, .inl (K.1, 124, .inl gA)), (yB, .inl (K.1, 124, .inl gB)), (yN, .inl (K.1, 124, .inl gN)), (yK, .inl (K.1, 124, .inl gM)), (yL, .inl (K.2.1, 62, .inl gL))]) (va_runV (As := [.int (xs (i + 1)), .int (xs (i + 2))]) (rest := [.long (-1)]) ⟨hx, hb, hml, hown, hw⟩ (c_M_partN l G D K H.size y cd seed mw cnt vb pl vs yS yA yB yN yK yL wa fo se (xs (i + 1)) (xs (i + 2)) (by omega) hip) (cwV 2 hw (cx_gV k_409 k_410 k_411 k_3 k_412) rfl rfl rfl (by decide +kernel) ⟨Nat.le_of_ble_eq_true rfl, Nat.le_of_ble_eq_true rfl⟩) (cx_preV (q0 := 10) (ci := 2) hK hP hD hS hA hE rfl rfl [10] rfl rfl (by decide)) rfl rfl hl.1 rfl (lv_room (Nat.le_of_ble_eq_true rfl)) d_L_law_150 ⟨Nat.le_of_ble_eq_true rfl, Nat.le_of_ble_eq_true rfl⟩) hP hD hS hA [10] [0, 1, 2, 3, 4, 5, 6, 7, 8, 9, 11, 12, 13, 14, 15, 16] rfl rfl (by decide) (by decide) [0, 1, 2, 3, 4, 5, 6, 7, 8, 9, 16, 10, 11, 12, 13, 14, 15] rfl rfl (by decide) (fun H locs hP hD hS => ?_)
      refine W.lcmp hx hb d_L_law_153 ?_
      refine lv_if_eq (tgt := 351) hx hb d_L_law_154 (by decide) (fun r_154 => ?_) (fun r_154 => ?_)
      · have c_154 := r_154
        refine lv_iinc (v := nI (i + 5)) (lv' := [(3, .int (nI (i + 5))), (1, .ref x), (2, .ref y), (0, .ref b)]) hx hb d_L_law_351 hl (k := 0) rfl (by exact nI_add i 5) (by decide) rfl (fun ls hl => ?_)
        refine lv_goto (tgt := 30) hx hb d_L_law_354 (by decide) ?_
        exact ih_30 (i + 5) _ _ _ ⟨by omega, ⟨cnt, vb, vs, tl, w, sk, pb, nu, so, fa, fb, ne, mk, w2, sk2, pb2, nu2, so2, fa2, fb2, ne2, mk2, fS, fA, fB, fN, fM, fL, fT, 0, mw, pl, wa, fo, se, gS, gA, gB, gN, gM, gL, hR, hP, hD⟩, hS, lv_sub hl [0, 1, 2, 3] rfl⟩ (by omega)
      · have c_154 := r_154
        exact absurd (lw_lcmp _) r_154
    · obtain ⟨k, hk, e1⟩ := bd_ip_of hcnt hip
      refine lv_aload_n hx hb d_L_law_125 rfl (lv_at hl 1 rfl) ?_
      refine lv_aload_n hx hb d_L_law_126 rfl (lv_at hl 3 rfl) ?_
      refine lv_iload_n hx hb d_L_law_127 rfl (lv_at hl 0 rfl) ?_
      refine lv_iconst (v := 1) hx hb d_L_law_128 (by decide) ?_
      refine lv_iadd hx hb d_L_law_129 ?_
      refine cx_ti (y := nI (i + 1)) (by exact nI_add i 1) ?_
      refine va_sld hx hb hX hbl hbA hS (vp_in_nI (n := i + 1) (by omega) (by omega)) d_L_law_130 ?_
      refine cx_ti (y := nI k) (by rw [nI_clamp (by omega)]; exact e1) ?_
      refine lv_aload_n hx hb d_L_law_131 rfl (lv_at hl 3 rfl) ?_
      refine lv_iload_n hx hb d_L_law_132 rfl (lv_at hl 0 rfl) ?_
      refine lv_iconst (v := 2) hx hb d_L_law_133 (by decide) ?_
      refine lv_iadd hx hb d_L_law_134 ?_
      refine cx_ti (y := nI (i + 2)) (by exact nI_add i 2) ?_
      refine va_sld hx hb hX hbl hbA hS (vp_in_nI (n := i + 2) (by omega) (by omega)) d_L_law_135 ?_
      refine cx_ti (y := xs (i + 2)) (by rw [nI_clamp (by omega)]) ?_
      refine cx_cl (wr := [(xM, .inr (0, [.long w, .int sk, .int pb, .int nu, .int so, .int fa, .int fb, .int ne, .int mk])), (xO, .inr (0, [.long w2, .int sk2, .int pb2, .int nu2, .int so2, .int fa2, .int fb2, .int ne2, .int mk2])), (xT, .inl (K.2.2, 992, .inl fT)), (y, .inr (2, [.int cd, .long seed, .long mw, .int (nI cnt), .int vb, .int pl, .int vs, .ref yS, .ref yA, .ref yB, .ref yN, .ref yK, .ref yL, .int wa, .int fo, .int se])), (yS, .inl (K.1, 124, .inl gS)), (yA, .inl (K.1, 124, .inl gA)), (yB, .inl (K.1, 124, .inl gB)), (yN, .inl (K.1, 124, .inl gN)), (yK, .inl (K.1, 124, .inl gM)), (yL, .inl (K.2.1, 62, .inl gL))]) (wN := [(x, .inr (1, [.long seed, .ref xM, .ref xO, .int (nI cnt), .ref xS, .ref xA, .ref xB, .ref xN, .ref xK, .ref xL, .int vb, .int vs, .ref xT, .int tl])), (xM, .inr (0, [.long w, .int sk, .int pb, .int nu, .int so, .int fa, .int fb, .int ne, .int mk])), (xO, .inr (0, [.long w2, .int sk2, .int pb2, .int nu2, .int so2, .int fa2, .int fb2, .int ne2, .int mk2])), (xS, .inl (K.1, 62, .inl fS)), (xA, .inl (K.1, 62, .inl fA)), (xB, .inl (K.1, 62, .inl fB)), (xN, .inl (K.1, 62, .inl fN)), (xK, .inl (K.1, 62, .inl fM)), (xL, .inl (K.2.1, 62, .inl fL)), (xT, .inl (K.2.2, 992, .inl fT)), (y, .inr (2, [.int cd, .long seed, .long mw, .int (nI cnt), .int vb, .int pl, .int vs, .ref yS, .ref yA, .ref yB, .ref yN, .ref yK, .ref yL, .int wa, .int fo, .int se])), (yS, .inl (K.1, 124, .inl gS)), (yA, .inl (K.1, 124, .inl gA)), (yB, .inl (K.1, 124, .inl gB)), (yN, .inl (K.1, 124, .inl gN)), (yK, .inl (K.1, 124, .inl gM)), (yL, .inl (K.2.1, 62, .inl gL))]) (va_runV (As := [.int (nI k), .int (xs (i + 2))]) (rest := []) ⟨hx, hb, hml, hown, hw⟩ (c_B_part l G D K H.size x seed xM xO cnt xS xA xB xN xK xL vb vs xT tl fS fA fB fN fM fL k (xs (i + 2)) (by omega) (by omega)) (cwV 2 hw (cx_gV k_149 k_150 k_151 k_1 k_152) rfl rfl rfl (by decide +kernel) ⟨Nat.le_of_ble_eq_true rfl, Nat.le_of_ble_eq_true rfl⟩) (cx_preV (q0 := 0) (ci := 1) hK hP hD hS hA hE rfl rfl [0, 3, 4, 5, 6, 7, 8] rfl rfl (by decide)) rfl rfl hl.1 rfl (lv_room (Nat.le_of_ble_eq_true rfl)) d_L_law_136 ⟨Nat.le_of_ble_eq_true rfl, Nat.le_of_ble_eq_true rfl⟩) hP hD hS hA [0, 3, 4, 5, 6, 7, 8] [1, 2, 9, 10, 11, 12, 13, 14, 15, 16] rfl rfl (by decide) (by decide) [10, 0, 1, 11, 12, 13, 14, 15, 16, 2, 3, 4, 5, 6, 7, 8, 9] rfl rfl (by decide) (fun H locs hP hD hS => ?_)
      refine lv_aload_n hx hb d_L_law_139 rfl (lv_at hl 2 rfl) ?_
      refine lv_aload_n hx hb d_L_law_140 rfl (lv_at hl 3 rfl) ?_
      refine lv_iload_n hx hb d_L_law_141 rfl (lv_at hl 0 rfl) ?_
      refine lv_iconst (v := 1) hx hb d_L_law_142 (by decide) ?_
      refine lv_iadd hx hb d_L_law_143 ?_
      refine cx_ti (y := nI (i + 1)) (by exact nI_add i 1) ?_
      refine va_sld hx hb hX hbl hbA hS (vp_in_nI (n := i + 1) (by omega) (by omega)) d_L_law_144 ?_
      refine cx_ti (y := nI k) (by rw [nI_clamp (by omega)]; exact e1) ?_
      refine lv_aload_n hx hb d_L_law_145 rfl (lv_at hl 3 rfl) ?_
      refine lv_iload_n hx hb d_L_law_146 rfl (lv_at hl 0 rfl) ?_
      refine lv_iconst (v := 2) hx hb d_L_law_147 (by decide) ?_
      refine lv_iadd hx hb d_L_law_148 ?_
      refine cx_ti (y := nI (i + 2)) (by exact nI_add i 2) ?_
      refine va_sld hx hb hX hbl hbA hS (vp_in_nI (n := i + 2) (by omega) (by omega)) d_L_law_149 ?_
      refine cx_ti (y := xs (i + 2)) (by rw [nI_clamp (by omega)]) ?_
      refine cx_cl (wr := [(x, .inr (1, [.long seed, .ref xM, .ref xO, .int (nI cnt), .ref xS, .ref xA, .ref xB, .ref xN, .ref xK, .ref xL, .int vb, .int vs, .ref xT, .int tl])), (xM, .inr (0, [.long w, .int sk, .int pb, .int nu, .int so, .int fa, .int fb, .int ne, .int mk])), (xO, .inr (0, [.long w2, .int sk2, .int pb2, .int nu2, .int so2, .int fa2, .int fb2, .int ne2, .int mk2])), (xS, .inl (K.1, 62, .inl fS)), (xA, .inl (K.1, 62, .inl fA)), (xB, .inl (K.1, 62, .inl fB)), (xN, .inl (K.1, 62, .inl fN)), (xK, .inl (K.1, 62, .inl fM)), (xL, .inl (K.2.1, 62, .inl fL)), (xT, .inl (K.2.2, 992, .inl fT))]) (wN := [(x, .inr (1, [.long seed, .ref xM, .ref xO, .int (nI cnt), .ref xS, .ref xA, .ref xB, .ref xN, .ref xK, .ref xL, .int vb, .int vs, .ref xT, .int tl])), (xM, .inr (0, [.long w, .int sk, .int pb, .int nu, .int so, .int fa, .int fb, .int ne, .int mk])), (xO, .inr (0, [.long w2, .int sk2, .int pb2, .int nu2, .int so2, .int fa2, .int fb2, .int ne2, .int mk2])), (xS, .inl (K.1, 62, .inl fS)), (xA, .inl (K.1, 62, .inl fA)), (xB, .inl (K.1, 62, .inl fB)), (xN, .inl (K.1, 62, .inl fN)), (xK, .inl (K.1, 62, .inl fM)), (xL, .inl (K.2.1, 62, .inl fL)), (xT, .inl (K.2.2, 992, .inl fT)), (y, .inr (2, [.int 0, .long seed, .long mw, .int (nI cnt), .int vb, .int pl, .int vs, .ref yS, .ref yA, .ref yB, .ref yN, .ref yK, .ref yL, .int wa, .int fo, .int se])), (yS, .inl (K.1, 124, .inl gS)), (yA, .inl (K.1, 124, .inl gA)), (yB, .inl (K.1, 124, .inl gB)), (yN, .inl (K.1, 124, .inl gN)), (yK, .inl (K.1, 124, .inl gM)), (yL, .inl (K.2.1, 62, .inl gL))]) (va_runV (As := [.int (nI k), .int (xs (i + 2))]) (rest := [.long (bd_part fS fA fB fN fM fL cnt k (xs (i + 2)))]) ⟨hx, hb, hml, hown, hw⟩ (c_M_part l G D K H.size y cd seed mw cnt vb pl vs yS yA yB yN yK yL wa fo se gS gA gB gN gM gL k (xs (i + 2)) (by omega) (by omega)) (cwV 2 hw (cx_gV k_409 k_410 k_411 k_3 k_412) rfl rfl rfl (by decide +kernel) ⟨Nat.le_of_ble_eq_true rfl, Nat.le_of_ble_eq_true rfl⟩) (cx_preV (q0 := 10) (ci := 2) hK hP hD hS hA hE rfl rfl [10, 11, 12, 13, 14, 15, 16] rfl rfl (by decide)) rfl rfl hl.1 rfl (lv_room (Nat.le_of_ble_eq_true rfl)) d_L_law_150 ⟨Nat.le_of_ble_eq_true rfl, Nat.le_of_ble_eq_true rfl⟩) hP hD hS hA [10, 11, 12, 13, 14, 15, 16] [0, 1, 2, 3, 4, 5, 6, 7, 8, 9] rfl rfl (by decide) (by decide) [0, 1, 2, 3, 4, 5, 6, 7, 8, 9, 10, 11, 12, 13, 14, 15, 16] rfl rfl (by decide) (fun H locs hP hD hS => ?_)
      refine cx_tl (y := bd_part fS fA fB fN fM fL cnt k (xs (i + 2))) ((bd_part_c eS eA eB eN eM eL hk).symm) ?_
      refine W.lcmp hx hb d_L_law_153 ?_
      refine lv_if_eq (tgt := 351) hx hb d_L_law_154 (by decide) (fun r_154 => ?_) (fun r_154 => ?_)
      · have c_154 := r_154
        refine lv_iinc (v := nI (i + 5)) (lv' := [(3, .int (nI (i + 5))), (1, .ref x), (2, .ref y), (0, .ref b)]) hx hb d_L_law_351 hl (k := 0) rfl (by exact nI_add i 5) (by decide) rfl (fun ls hl => ?_)
        refine lv_goto (tgt := 30) hx hb d_L_law_354 (by decide) ?_
        exact ih_30 (i + 5) _ _ _ ⟨by omega, ⟨cnt, vb, vs, tl, w, sk, pb, nu, so, fa, fb, ne, mk, w2, sk2, pb2, nu2, so2, fa2, fb2, ne2, mk2, fS, fA, fB, fN, fM, fL, fT, 0, mw, pl, wa, fo, se, gS, gA, gB, gN, gM, gL, hR, hP, hD⟩, hS, lv_sub hl [0, 1, 2, 3] rfl⟩ (by omega)
      · have c_154 := r_154
        exact absurd (lw_lcmp _) r_154
  · refine lv_tableIn (tgt := 159) (off := 115) hx hb d_L_law_44 (by decide) (by decide) (by rfl) (by decide) ?_
    rcases id htl with h9 | ⟨h9, hT9⟩
    · subst h9
      refine lv_aload_n hx hb d_L_law_159 rfl (lv_at hl 1 rfl) ?_
      refine lv_aload_n hx hb d_L_law_160 rfl (lv_at hl 3 rfl) ?_
      refine lv_iload_n hx hb d_L_law_161 rfl (lv_at hl 0 rfl) ?_
      refine lv_iconst (v := 1) hx hb d_L_law_162 (by decide) ?_
      refine lv_iadd hx hb d_L_law_163 ?_
      refine cx_ti (y := nI (i + 1)) (by exact nI_add i 1) ?_
      refine va_sld hx hb hX hbl hbA hS (vp_in_nI (n := i + 1) (by omega) (by omega)) d_L_law_164 ?_
      refine cx_ti (y := xs (i + 1)) (by rw [nI_clamp (by omega)]) ?_
      refine cx_ci (wr := [(xM, .inr (0, [.long w, .int sk, .int pb, .int nu, .int so, .int fa, .int fb, .int ne, .int mk])), (xO, .inr (0, [.long w2, .int sk2, .int pb2, .int nu2, .int so2, .int fa2, .int fb2, .int ne2, .int mk2])), (xK, .inl (K.1, 62, .inl fM)), (y, .inr (2, [.int cd, .long seed, .long mw, .int (nI cnt), .int vb, .int pl, .int vs, .ref yS, .ref yA, .ref yB, .ref yN, .ref yK, .ref yL, .int wa, .int fo, .int se])), (yS, .inl (K.1, 124, .inl gS)), (yA, .inl (K.1, 124, .inl gA)), (yB, .inl (K.1, 124, .inl gB)), (yN, .inl (K.1, 124, .inl gN)), (yK, .inl (K.1, 124, .inl gM)), (yL, .inl (K.2.1, 62, .inl gL))]) (wN := [(x, .inr (1, [.long seed, .ref xM, .ref xO, .int (nI cnt), .ref xS, .ref xA, .ref xB, .ref xN, .ref xK, .ref xL, .int vb, .int vs, .ref xT, .int (nI (0 + (bd_tx fS fA fB fN fL cnt).length))])), (xM, .inr (0, [.long w, .int sk, .int pb, .int nu, .int so, .int fa, .int fb, .int ne, .int mk])), (xO, .inr (0, [.long w2, .int sk2, .int pb2, .int nu2, .int so2, .int fa2, .int fb2, .int ne2, .int mk2])), (xS, .inl (K.1, 62, .inl fS)), (xA, .inl (K.1, 62, .inl fA)), (xB, .inl (K.1, 62, .inl fB)), (xN, .inl (K.1, 62, .inl fN)), (xK, .inl (K.1, 62, .inl fM)), (xL, .inl (K.2.1, 62, .inl fL)), (xT, .inl (K.2.2, 992, .inl (bd_app fT 0 (bd_tx fS fA fB fN fL cnt)))), (y, .inr (2, [.int cd, .long seed, .long mw, .int (nI cnt), .int vb, .int pl, .int vs, .ref yS, .ref yA, .ref yB, .ref yN, .ref yK, .ref yL, .int wa, .int fo, .int se])), (yS, .inl (K.1, 124, .inl gS)), (yA, .inl (K.1, 124, .inl gA)), (yB, .inl (K.1, 124, .inl gB)), (yN, .inl (K.1, 124, .inl gN)), (yK, .inl (K.1, 124, .inl gM)), (yL, .inl (K.2.1, 62, .inl gL))]) (va_runV (As := [.int (xs (i + 1))]) (rest := []) ⟨hx, hb, hml, hown, hw⟩ (c_B_letter l G D K H.size x seed xM xO cnt xS xA xB xN xK xL vb vs xT fS fA fB fN fL fT (xs (i + 1)) (by omega) hok) (cwV 1 hw (cx_gV k_169 k_170 k_171 k_1 k_172) rfl rfl rfl (by decide +kernel) ⟨Nat.le_of_ble_eq_true rfl, Nat.le_of_ble_eq_true rfl⟩) (cx_preV (q0 := 0) (ci := 1) hK hP hD hS hA hE rfl rfl [0, 3, 4, 5, 6, 8, 9] rfl rfl (by decide)) rfl rfl hl.1 rfl (lv_room (Nat.le_of_ble_eq_true rfl)) d_L_law_165 ⟨Nat.le_of_ble_eq_true rfl, Nat.le_of_ble_eq_true rfl⟩) hP hD hS hA [0, 3, 4, 5, 6, 8, 9] [1, 2, 7, 10, 11, 12, 13, 14, 15, 16] rfl rfl (by decide) (by decide) [10, 0, 1, 11, 12, 13, 14, 2, 15, 16, 3, 4, 5, 6, 7, 8, 9] rfl rfl (by decide) (fun H locs hP hD hS => ?_)
      refine lv_aload_n hx hb d_L_law_168 rfl (lv_at hl 2 rfl) ?_
      refine lv_aload_n hx hb d_L_law_169 rfl (lv_at hl 3 rfl) ?_
      refine lv_iload_n hx hb d_L_law_170 rfl (lv_at hl 0 rfl) ?_
      refine lv_iconst (v := 1) hx hb d_L_law_171 (by decide) ?_
      refine lv_iadd hx hb d_L_law_172 ?_
      refine cx_ti (y := nI (i + 1)) (by exact nI_add i 1) ?_
      refine va_sld hx hb hX hbl hbA hS (vp_in_nI (n := i + 1) (by omega) (by omega)) d_L_law_173 ?_
      refine cx_ti (y := xs (i + 1)) (by rw [nI_clamp (by omega)]) ?_
      refine cx_ci (wr := [(x, .inr (1, [.long seed, .ref xM, .ref xO, .int (nI cnt), .ref xS, .ref xA, .ref xB, .ref xN, .ref xK, .ref xL, .int vb, .int vs, .ref xT, .int (nI (0 + (bd_tx fS fA fB fN fL cnt).length))])), (xM, .inr (0, [.long w, .int sk, .int pb, .int nu, .int so, .int fa, .int fb, .int ne, .int mk])), (xO, .inr (0, [.long w2, .int sk2, .int pb2, .int nu2, .int so2, .int fa2, .int fb2, .int ne2, .int mk2])), (xS, .inl (K.1, 62, .inl fS)), (xA, .inl (K.1, 62, .inl fA)), (xB, .inl (K.1, 62, .inl fB)), (xN, .inl (K.1, 62, .inl fN)), (xK, .inl (K.1, 62, .inl fM)), (xL, .inl (K.2.1, 62, .inl fL)), (xT, .inl (K.2.2, 992, .inl (bd_app fT 0 (bd_tx fS fA fB fN fL cnt)))), (yK, .inl (K.1, 124, .inl gM))]) (wN := [(x, .inr (1, [.long seed, .ref xM, .ref xO, .int (nI cnt), .ref xS, .ref xA, .ref xB, .ref xN, .ref xK, .ref xL, .int vb, .int vs, .ref xT, .int (nI (0 + (bd_tx fS fA fB fN fL cnt).length))])), (xM, .inr (0, [.long w, .int sk, .int pb, .int nu, .int so, .int fa, .int fb, .int ne, .int mk])), (xO, .inr (0, [.long w2, .int sk2, .int pb2, .int nu2, .int so2, .int fa2, .int fb2, .int ne2, .int mk2])), (xS, .inl (K.1, 62, .inl fS)), (xA, .inl (K.1, 62, .inl fA)), (xB, .inl (K.1, 62, .inl fB)), (xN, .inl (K.1, 62, .inl fN)), (xK, .inl (K.1, 62, .inl fM)), (xL, .inl (K.2.1, 62, .inl fL)), (xT, .inl (K.2.2, 992, .inl (bd_app fT 0 (bd_tx fS fA fB fN fL cnt)))), (y, .inr (2, [.int 0, .long seed, .long mw, .int (nI cnt), .int vb, .int pl, .int vs, .ref yS, .ref yA, .ref yB, .ref yN, .ref yK, .ref yL, .int (xs (i + 1)), .int (bd_ch (bd_tx gS gA gB gN gL cnt) (xs (i + 1))), .int (nI (bd_tx gS gA gB gN gL cnt).length)])), (yS, .inl (K.1, 124, .inl gS)), (yA, .inl (K.1, 124, .inl gA)), (yB, .inl (K.1, 124, .inl gB)), (yN, .inl (K.1, 124, .inl gN)), (yK, .inl (K.1, 124, .inl gM)), (yL, .inl (K.2.1, 62, .inl gL))]) (va_runV (As := [.int (xs (i + 1))]) (rest := [.int (bd_ch (bd_tx fS fA fB fN fL cnt) (xs (i + 1)))]) ⟨hx, hb, hml, hown, hw⟩ (c_M_letter l G D K H.size y cd seed mw cnt vb pl vs yS yA yB yN yK yL wa fo se gS gA gB gN gL (xs (i + 1)) (by omega) (fun j hj => by rw [← eS j hj, ← eA j hj, ← eB j hj, ← eN j hj]; exact hok j hj)) (cwV 1 hw (cx_gV k_419 k_420 k_421 k_3 k_422) rfl rfl rfl (by decide +kernel) ⟨Nat.le_of_ble_eq_true rfl, Nat.le_of_ble_eq_true rfl⟩) (cx_preV (q0 := 10) (ci := 2) hK hP hD hS hA hE rfl rfl [10, 11, 12, 13, 14, 16] rfl rfl (by decide)) rfl rfl hl.1 rfl (lv_room (Nat.le_of_ble_eq_true rfl)) d_L_law_174 ⟨Nat.le_of_ble_eq_true rfl, Nat.le_of_ble_eq_true rfl⟩) hP hD hS hA [10, 11, 12, 13, 14, 16] [0, 1, 2, 3, 4, 5, 6, 7, 8, 9, 15] rfl rfl (by decide) (by decide) [0, 1, 2, 3, 4, 5, 6, 7, 8, 9, 11, 12, 13, 14, 15, 10, 16] rfl rfl (by decide) (fun H locs hP hD hS => ?_)
      refine lv_icmp_eq (tgt := 351) hx hb d_L_law_177 (by decide) (fun r_177 => ?_) (fun r_177 => ?_)
      · have c_177 := r_177
        refine lv_iinc (v := nI (i + 5)) (lv' := [(3, .int (nI (i + 5))), (1, .ref x), (2, .ref y), (0, .ref b)]) hx hb d_L_law_351 hl (k := 0) rfl (by exact nI_add i 5) (by decide) rfl (fun ls hl => ?_)
        refine lv_goto (tgt := 30) hx hb d_L_law_354 (by decide) ?_
        exact ih_30 (i + 5) _ _ _ ⟨by omega, ⟨cnt, vb, vs, (nI (0 + (bd_tx fS fA fB fN fL cnt).length)), w, sk, pb, nu, so, fa, fb, ne, mk, w2, sk2, pb2, nu2, so2, fa2, fb2, ne2, mk2, fS, fA, fB, fN, fM, fL, (bd_app fT 0 (bd_tx fS fA fB fN fL cnt)), 0, mw, pl, (xs (i + 1)), (bd_ch (bd_tx gS gA gB gN gL cnt) (xs (i + 1))), (nI (bd_tx gS gA gB gN gL cnt).length), gS, gA, gB, gN, gM, gL, ⟨hcnt, hvs, eS, eA, eB, eN, eM, eL, hok, Or.inr ⟨by rw [Nat.zero_add], fun j hj => (if_pos ⟨Nat.zero_le _, by omega⟩).trans (by rw [Nat.sub_zero])⟩⟩, hP, hD⟩, hS, lv_sub hl [0, 1, 2, 3] rfl⟩ (by omega)
      · have c_177 := r_177
        exact absurd (by rw [bd_tx_c eS eA eB eN eL]) r_177
    · subst h9
      have hlen := bd_tx_len (fL := fL) (n := cnt) hcnt hok
      refine lv_aload_n hx hb d_L_law_159 rfl (lv_at hl 1 rfl) ?_
      refine lv_aload_n hx hb d_L_law_160 rfl (lv_at hl 3 rfl) ?_
      refine lv_iload_n hx hb d_L_law_161 rfl (lv_at hl 0 rfl) ?_
      refine lv_iconst (v := 1) hx hb d_L_law_162 (by decide) ?_
      refine lv_iadd hx hb d_L_law_163 ?_
      refine cx_ti (y := nI (i + 1)) (by exact nI_add i 1) ?_
      refine va_sld hx hb hX hbl hbA hS (vp_in_nI (n := i + 1) (by omega) (by omega)) d_L_law_164 ?_
      refine cx_ti (y := xs (i + 1)) (by rw [nI_clamp (by omega)]) ?_
      refine cx_ci (wr := [(xM, .inr (0, [.long w, .int sk, .int pb, .int nu, .int so, .int fa, .int fb, .int ne, .int mk])), (xO, .inr (0, [.long w2, .int sk2, .int pb2, .int nu2, .int so2, .int fa2, .int fb2, .int ne2, .int mk2])), (xS, .inl (K.1, 62, .inl fS)), (xA, .inl (K.1, 62, .inl fA)), (xB, .inl (K.1, 62, .inl fB)), (xN, .inl (K.1, 62, .inl fN)), (xK, .inl (K.1, 62, .inl fM)), (xL, .inl (K.2.1, 62, .inl fL)), (y, .inr (2, [.int cd, .long seed, .long mw, .int (nI cnt), .int vb, .int pl, .int vs, .ref yS, .ref yA, .ref yB, .ref yN, .ref yK, .ref yL, .int wa, .int fo, .int se])), (yS, .inl (K.1, 124, .inl gS)), (yA, .inl (K.1, 124, .inl gA)), (yB, .inl (K.1, 124, .inl gB)), (yN, .inl (K.1, 124, .inl gN)), (yK, .inl (K.1, 124, .inl gM)), (yL, .inl (K.2.1, 62, .inl gL))]) (wN := [(x, .inr (1, [.long seed, .ref xM, .ref xO, .int (nI cnt), .ref xS, .ref xA, .ref xB, .ref xN, .ref xK, .ref xL, .int vb, .int vs, .ref xT, .int (nI (bd_tx fS fA fB fN fL cnt).length)])), (xM, .inr (0, [.long w, .int sk, .int pb, .int nu, .int so, .int fa, .int fb, .int ne, .int mk])), (xO, .inr (0, [.long w2, .int sk2, .int pb2, .int nu2, .int so2, .int fa2, .int fb2, .int ne2, .int mk2])), (xS, .inl (K.1, 62, .inl fS)), (xA, .inl (K.1, 62, .inl fA)), (xB, .inl (K.1, 62, .inl fB)), (xN, .inl (K.1, 62, .inl fN)), (xK, .inl (K.1, 62, .inl fM)), (xL, .inl (K.2.1, 62, .inl fL)), (xT, .inl (K.2.2, 992, .inl fT)), (y, .inr (2, [.int cd, .long seed, .long mw, .int (nI cnt), .int vb, .int pl, .int vs, .ref yS, .ref yA, .ref yB, .ref yN, .ref yK, .ref yL, .int wa, .int fo, .int se])), (yS, .inl (K.1, 124, .inl gS)), (yA, .inl (K.1, 124, .inl gA)), (yB, .inl (K.1, 124, .inl gB)), (yN, .inl (K.1, 124, .inl gN)), (yK, .inl (K.1, 124, .inl gM)), (yL, .inl (K.2.1, 62, .inl gL))]) (va_runV (As := [.int (xs (i + 1))]) (rest := []) ⟨hx, hb, hml, hown, hw⟩ (c_B_letterC l G D K H.size x seed xM xO cnt xS xA xB xN xK xL vb vs xT fT (bd_tx fS fA fB fN fL cnt) (xs (i + 1)) (by omega) hT9) (cwV 1 hw (cx_gV k_169 k_170 k_171 k_1 k_172) rfl rfl rfl (by decide +kernel) ⟨Nat.le_of_ble_eq_true rfl, Nat.le_of_ble_eq_true rfl⟩) (cx_preV (q0 := 0) (ci := 1) hK hP hD hS hA hE rfl rfl [0, 9] rfl rfl (by decide)) rfl rfl hl.1 rfl (lv_room (Nat.le_of_ble_eq_true rfl)) d_L_law_165 ⟨Nat.le_of_ble_eq_true rfl, Nat.le_of_ble_eq_true rfl⟩) hP hD hS hA [0, 9] [1, 2, 3, 4, 5, 6, 7, 8, 10, 11, 12, 13, 14, 15, 16] rfl rfl (by decide) (by decide) [15, 0, 1, 2, 3, 4, 5, 6, 7, 16, 8, 9, 10, 11, 12, 13, 14] rfl rfl (by decide) (fun H locs hP hD hS => ?_)
      refine lv_aload_n hx hb d_L_law_168 rfl (lv_at hl 2 rfl) ?_
      refine lv_aload_n hx hb d_L_law_169 rfl (lv_at hl 3 rfl) ?_
      refine lv_iload_n hx hb d_L_law_170 rfl (lv_at hl 0 rfl) ?_
      refine lv_iconst (v := 1) hx hb d_L_law_171 (by decide) ?_
      refine lv_iadd hx hb d_L_law_172 ?_
      refine cx_ti (y := nI (i + 1)) (by exact nI_add i 1) ?_
      refine va_sld hx hb hX hbl hbA hS (vp_in_nI (n := i + 1) (by omega) (by omega)) d_L_law_173 ?_
      refine cx_ti (y := xs (i + 1)) (by rw [nI_clamp (by omega)]) ?_
      refine cx_ci (wr := [(x, .inr (1, [.long seed, .ref xM, .ref xO, .int (nI cnt), .ref xS, .ref xA, .ref xB, .ref xN, .ref xK, .ref xL, .int vb, .int vs, .ref xT, .int (nI (bd_tx fS fA fB fN fL cnt).length)])), (xM, .inr (0, [.long w, .int sk, .int pb, .int nu, .int so, .int fa, .int fb, .int ne, .int mk])), (xO, .inr (0, [.long w2, .int sk2, .int pb2, .int nu2, .int so2, .int fa2, .int fb2, .int ne2, .int mk2])), (xS, .inl (K.1, 62, .inl fS)), (xA, .inl (K.1, 62, .inl fA)), (xB, .inl (K.1, 62, .inl fB)), (xN, .inl (K.1, 62, .inl fN)), (xK, .inl (K.1, 62, .inl fM)), (xL, .inl (K.2.1, 62, .inl fL)), (xT, .inl (K.2.2, 992, .inl fT)), (yK, .inl (K.1, 124, .inl gM))]) (wN := [(x, .inr (1, [.long seed, .ref xM, .ref xO, .int (nI cnt), .ref xS, .ref xA, .ref xB, .ref xN, .ref xK, .ref xL, .int vb, .int vs, .ref xT, .int (nI (bd_tx fS fA fB fN fL cnt).length)])), (xM, .inr (0, [.long w, .int sk, .int pb, .int nu, .int so, .int fa, .int fb, .int ne, .int mk])), (xO, .inr (0, [.long w2, .int sk2, .int pb2, .int nu2, .int so2, .int fa2, .int fb2, .int ne2, .int mk2])), (xS, .inl (K.1, 62, .inl fS)), (xA, .inl (K.1, 62, .inl fA)), (xB, .inl (K.1, 62, .inl fB)), (xN, .inl (K.1, 62, .inl fN)), (xK, .inl (K.1, 62, .inl fM)), (xL, .inl (K.2.1, 62, .inl fL)), (xT, .inl (K.2.2, 992, .inl fT)), (y, .inr (2, [.int 0, .long seed, .long mw, .int (nI cnt), .int vb, .int pl, .int vs, .ref yS, .ref yA, .ref yB, .ref yN, .ref yK, .ref yL, .int (xs (i + 1)), .int (bd_ch (bd_tx gS gA gB gN gL cnt) (xs (i + 1))), .int (nI (bd_tx gS gA gB gN gL cnt).length)])), (yS, .inl (K.1, 124, .inl gS)), (yA, .inl (K.1, 124, .inl gA)), (yB, .inl (K.1, 124, .inl gB)), (yN, .inl (K.1, 124, .inl gN)), (yK, .inl (K.1, 124, .inl gM)), (yL, .inl (K.2.1, 62, .inl gL))]) (va_runV (As := [.int (xs (i + 1))]) (rest := [.int (bd_ch (bd_tx fS fA fB fN fL cnt) (xs (i + 1)))]) ⟨hx, hb, hml, hown, hw⟩ (c_M_letter l G D K H.size y cd seed mw cnt vb pl vs yS yA yB yN yK yL wa fo se gS gA gB gN gL (xs (i + 1)) (by omega) (fun j hj => by rw [← eS j hj, ← eA j hj, ← eB j hj, ← eN j hj]; exact hok j hj)) (cwV 1 hw (cx_gV k_419 k_420 k_421 k_3 k_422) rfl rfl rfl (by decide +kernel) ⟨Nat.le_of_ble_eq_true rfl, Nat.le_of_ble_eq_true rfl⟩) (cx_preV (q0 := 10) (ci := 2) hK hP hD hS hA hE rfl rfl [10, 11, 12, 13, 14, 16] rfl rfl (by decide)) rfl rfl hl.1 rfl (lv_room (Nat.le_of_ble_eq_true rfl)) d_L_law_174 ⟨Nat.le_of_ble_eq_true rfl, Nat.le_of_ble_eq_true rfl⟩) hP hD hS hA [10, 11, 12, 13, 14, 16] [0, 1, 2, 3, 4, 5, 6, 7, 8, 9, 15] rfl rfl (by decide) (by decide) [0, 1, 2, 3, 4, 5, 6, 7, 8, 9, 11, 12, 13, 14, 15, 10, 16] rfl rfl (by decide) (fun H locs hP hD hS => ?_)
      refine lv_icmp_eq (tgt := 351) hx hb d_L_law_177 (by decide) (fun r_177 => ?_) (fun r_177 => ?_)
      · have c_177 := r_177
        refine lv_iinc (v := nI (i + 5)) (lv' := [(3, .int (nI (i + 5))), (1, .ref x), (2, .ref y), (0, .ref b)]) hx hb d_L_law_351 hl (k := 0) rfl (by exact nI_add i 5) (by decide) rfl (fun ls hl => ?_)
        refine lv_goto (tgt := 30) hx hb d_L_law_354 (by decide) ?_
        exact ih_30 (i + 5) _ _ _ ⟨by omega, ⟨cnt, vb, vs, (nI (bd_tx fS fA fB fN fL cnt).length), w, sk, pb, nu, so, fa, fb, ne, mk, w2, sk2, pb2, nu2, so2, fa2, fb2, ne2, mk2, fS, fA, fB, fN, fM, fL, fT, 0, mw, pl, (xs (i + 1)), (bd_ch (bd_tx gS gA gB gN gL cnt) (xs (i + 1))), (nI (bd_tx gS gA gB gN gL cnt).length), gS, gA, gB, gN, gM, gL, hR, hP, hD⟩, hS, lv_sub hl [0, 1, 2, 3] rfl⟩ (by omega)
      · have c_177 := r_177
        exact absurd (by rw [bd_tx_c eS eA eB eN eL]) r_177
  · refine lv_tableIn (tgt := 182) (off := 138) hx hb d_L_law_44 (by decide) (by decide) (by rfl) (by decide) ?_
    refine lv_aload_n hx hb d_L_law_182 rfl (lv_at hl 1 rfl) ?_
    refine lv_aload_n hx hb d_L_law_183 rfl (lv_at hl 3 rfl) ?_
    refine lv_iload_n hx hb d_L_law_184 rfl (lv_at hl 0 rfl) ?_
    refine lv_iconst (v := 1) hx hb d_L_law_185 (by decide) ?_
    refine lv_iadd hx hb d_L_law_186 ?_
    refine cx_ti (y := nI (i + 1)) (by exact nI_add i 1) ?_
    refine va_sld hx hb hX hbl hbA hS (vp_in_nI (n := i + 1) (by omega) (by omega)) d_L_law_187 ?_
    refine cx_ti (y := xs (i + 1)) (by rw [nI_clamp (by omega)]) ?_
    refine lv_aload_n hx hb d_L_law_188 rfl (lv_at hl 3 rfl) ?_
    refine lv_iload_n hx hb d_L_law_189 rfl (lv_at hl 0 rfl) ?_
    refine lv_iconst (v := 2) hx hb d_L_law_190 (by decide) ?_
    refine lv_iadd hx hb d_L_law_191 ?_
    refine cx_ti (y := nI (i + 2)) (by exact nI_add i 2) ?_
    refine va_sld hx hb hX hbl hbA hS (vp_in_nI (n := i + 2) (by omega) (by omega)) d_L_law_192 ?_
    refine cx_ti (y := xs (i + 2)) (by rw [nI_clamp (by omega)]) ?_
    refine lv_if_eq (tgt := 200) hx hb d_L_law_193 (by decide) (fun r_193 => ?_) (fun r_193 => ?_)
    · have c_193 := r_193
      refine lv_iconst (v := 0) hx hb d_L_law_200 (by decide) ?_
      refine cx_cv (wr := [(xM, .inr (0, [.long w, .int sk, .int pb, .int nu, .int so, .int fa, .int fb, .int ne, .int mk])), (xO, .inr (0, [.long w2, .int sk2, .int pb2, .int nu2, .int so2, .int fa2, .int fb2, .int ne2, .int mk2])), (xS, .inl (K.1, 62, .inl fS)), (xA, .inl (K.1, 62, .inl fA)), (xB, .inl (K.1, 62, .inl fB)), (xN, .inl (K.1, 62, .inl fN)), (xK, .inl (K.1, 62, .inl fM)), (xL, .inl (K.2.1, 62, .inl fL)), (xT, .inl (K.2.2, 992, .inl fT)), (y, .inr (2, [.int cd, .long seed, .long mw, .int (nI cnt), .int vb, .int pl, .int vs, .ref yS, .ref yA, .ref yB, .ref yN, .ref yK, .ref yL, .int wa, .int fo, .int se])), (yS, .inl (K.1, 124, .inl gS)), (yA, .inl (K.1, 124, .inl gA)), (yB, .inl (K.1, 124, .inl gB)), (yN, .inl (K.1, 124, .inl gN)), (yK, .inl (K.1, 124, .inl gM)), (yL, .inl (K.2.1, 62, .inl gL))]) (wN := [(x, .inr (1, [.long seed, .ref xM, .ref xO, .int (nI cnt), .ref xS, .ref xA, .ref xB, .ref xN, .ref xK, .ref xL, .int ((xs (i + 1)) &&& 255), .int 0, .ref xT, .int tl])), (xM, .inr (0, [.long w, .int sk, .int pb, .int nu, .int so, .int fa, .int fb, .int ne, .int mk])), (xO, .inr (0, [.long w2, .int sk2, .int pb2, .int nu2, .int so2, .int fa2, .int fb2, .int ne2, .int mk2])), (xS, .inl (K.1, 62, .inl fS)), (xA, .inl (K.1, 62, .inl fA)), (xB, .inl (K.1, 62, .inl fB)), (xN, .inl (K.1, 62, .inl fN)), (xK, .inl (K.1, 62, .inl fM)), (xL, .inl (K.2.1, 62, .inl fL)), (xT, .inl (K.2.2, 992, .inl fT)), (y, .inr (2, [.int cd, .long seed, .long mw, .int (nI cnt), .int vb, .int pl, .int vs, .ref yS, .ref yA, .ref yB, .ref yN, .ref yK, .ref yL, .int wa, .int fo, .int se])), (yS, .inl (K.1, 124, .inl gS)), (yA, .inl (K.1, 124, .inl gA)), (yB, .inl (K.1, 124, .inl gB)), (yN, .inl (K.1, 124, .inl gN)), (yK, .inl (K.1, 124, .inl gM)), (yL, .inl (K.2.1, 62, .inl gL))]) (va_runV (As := [.int (xs (i + 1)), .int 0]) (rest := []) ⟨hx, hb, hml, hown, hw⟩ (c_B_verdict l G D K H.size x seed xM xO cnt xS xA xB xN xK xL vb vs xT tl (xs (i + 1)) 0 (Or.inl rfl)) (cwV 2 hw (cx_gV k_246 k_247 k_248 k_1 k_249) rfl rfl rfl (by decide +kernel) ⟨Nat.le_of_ble_eq_true rfl, Nat.le_of_ble_eq_true rfl⟩) (cx_preV (q0 := 0) (ci := 1) hK hP hD hS hA hE rfl rfl [0] rfl rfl (by decide)) rfl rfl hl.1 rfl (lv_room (Nat.le_of_ble_eq_true rfl)) d_L_law_201 ⟨Nat.le_of_ble_eq_true rfl, Nat.le_of_ble_eq_true rfl⟩) hP hD hS hA [0] [1, 2, 3, 4, 5, 6, 7, 8, 9, 10, 11, 12, 13, 14, 15, 16] rfl rfl (by decide) (by decide) [16, 0, 1, 2, 3, 4, 5, 6, 7, 8, 9, 10, 11, 12, 13, 14, 15] rfl rfl (by decide) (fun H locs hP hD hS => ?_)
      refine lv_aload_n hx hb d_L_law_204 rfl (lv_at hl 2 rfl) ?_
      refine lv_aload_n hx hb d_L_law_205 rfl (lv_at hl 3 rfl) ?_
      refine lv_iload_n hx hb d_L_law_206 rfl (lv_at hl 0 rfl) ?_
      refine lv_iconst (v := 1) hx hb d_L_law_207 (by decide) ?_
      refine lv_iadd hx hb d_L_law_208 ?_
      refine cx_ti (y := nI (i + 1)) (by exact nI_add i 1) ?_
      refine va_sld hx hb hX hbl hbA hS (vp_in_nI (n := i + 1) (by omega) (by omega)) d_L_law_209 ?_
      refine cx_ti (y := xs (i + 1)) (by rw [nI_clamp (by omega)]) ?_
      refine lv_aload_n hx hb d_L_law_210 rfl (lv_at hl 3 rfl) ?_
      refine lv_iload_n hx hb d_L_law_211 rfl (lv_at hl 0 rfl) ?_
      refine lv_iconst (v := 2) hx hb d_L_law_212 (by decide) ?_
      refine lv_iadd hx hb d_L_law_213 ?_
      refine cx_ti (y := nI (i + 2)) (by exact nI_add i 2) ?_
      refine va_sld hx hb hX hbl hbA hS (vp_in_nI (n := i + 2) (by omega) (by omega)) d_L_law_214 ?_
      refine cx_ti (y := xs (i + 2)) (by rw [nI_clamp (by omega)]) ?_
      refine lv_if_eq (tgt := 222) hx hb d_L_law_215 (by decide) (fun r_215 => ?_) (fun r_215 => ?_)
      · have c_215 := r_215
        refine lv_iconst (v := 0) hx hb d_L_law_222 (by decide) ?_
        refine cx_cv (wr := [(x, .inr (1, [.long seed, .ref xM, .ref xO, .int (nI cnt), .ref xS, .ref xA, .ref xB, .ref xN, .ref xK, .ref xL, .int ((xs (i + 1)) &&& 255), .int 0, .ref xT, .int tl])), (xM, .inr (0, [.long w, .int sk, .int pb, .int nu, .int so, .int fa, .int fb, .int ne, .int mk])), (xO, .inr (0, [.long w2, .int sk2, .int pb2, .int nu2, .int so2, .int fa2, .int fb2, .int ne2, .int mk2])), (xS, .inl (K.1, 62, .inl fS)), (xA, .inl (K.1, 62, .inl fA)), (xB, .inl (K.1, 62, .inl fB)), (xN, .inl (K.1, 62, .inl fN)), (xK, .inl (K.1, 62, .inl fM)), (xL, .inl (K.2.1, 62, .inl fL)), (xT, .inl (K.2.2, 992, .inl fT)), (yS, .inl (K.1, 124, .inl gS)), (yA, .inl (K.1, 124, .inl gA)), (yB, .inl (K.1, 124, .inl gB)), (yN, .inl (K.1, 124, .inl gN)), (yK, .inl (K.1, 124, .inl gM)), (yL, .inl (K.2.1, 62, .inl gL))]) (wN := [(x, .inr (1, [.long seed, .ref xM, .ref xO, .int (nI cnt), .ref xS, .ref xA, .ref xB, .ref xN, .ref xK, .ref xL, .int ((xs (i + 1)) &&& 255), .int 0, .ref xT, .int tl])), (xM, .inr (0, [.long w, .int sk, .int pb, .int nu, .int so, .int fa, .int fb, .int ne, .int mk])), (xO, .inr (0, [.long w2, .int sk2, .int pb2, .int nu2, .int so2, .int fa2, .int fb2, .int ne2, .int mk2])), (xS, .inl (K.1, 62, .inl fS)), (xA, .inl (K.1, 62, .inl fA)), (xB, .inl (K.1, 62, .inl fB)), (xN, .inl (K.1, 62, .inl fN)), (xK, .inl (K.1, 62, .inl fM)), (xL, .inl (K.2.1, 62, .inl fL)), (xT, .inl (K.2.2, 992, .inl fT)), (y, .inr (2, [.int 0, .long seed, .long mw, .int (nI cnt), .int ((xs (i + 1)) &&& 255), .int pl, .int 0, .ref yS, .ref yA, .ref yB, .ref yN, .ref yK, .ref yL, .int wa, .int fo, .int se])), (yS, .inl (K.1, 124, .inl gS)), (yA, .inl (K.1, 124, .inl gA)), (yB, .inl (K.1, 124, .inl gB)), (yN, .inl (K.1, 124, .inl gN)), (yK, .inl (K.1, 124, .inl gM)), (yL, .inl (K.2.1, 62, .inl gL))]) (va_runV (As := [.int (xs (i + 1)), .int 0]) (rest := []) ⟨hx, hb, hml, hown, hw⟩ (c_M_verdict l G D K H.size y cd seed mw cnt vb pl vs yS yA yB yN yK yL wa fo se (xs (i + 1)) 0 (Or.inl rfl)) (cwV 2 hw (cx_gV k_381 k_382 k_383 k_3 k_384) rfl rfl rfl (by decide +kernel) ⟨Nat.le_of_ble_eq_true rfl, Nat.le_of_ble_eq_true rfl⟩) (cx_preV (q0 := 10) (ci := 2) hK hP hD hS hA hE rfl rfl [10] rfl rfl (by decide)) rfl rfl hl.1 rfl (lv_room (Nat.le_of_ble_eq_true rfl)) d_L_law_223 ⟨Nat.le_of_ble_eq_true rfl, Nat.le_of_ble_eq_true rfl⟩) hP hD hS hA [10] [0, 1, 2, 3, 4, 5, 6, 7, 8, 9, 11, 12, 13, 14, 15, 16] rfl rfl (by decide) (by decide) [0, 1, 2, 3, 4, 5, 6, 7, 8, 9, 16, 10, 11, 12, 13, 14, 15] rfl rfl (by decide) (fun H locs hP hD hS => ?_)
        refine lv_goto (tgt := 351) hx hb d_L_law_226 (by decide) ?_
        refine lv_iinc (v := nI (i + 5)) (lv' := [(3, .int (nI (i + 5))), (1, .ref x), (2, .ref y), (0, .ref b)]) hx hb d_L_law_351 hl (k := 0) rfl (by exact nI_add i 5) (by decide) rfl (fun ls hl => ?_)
        refine lv_goto (tgt := 30) hx hb d_L_law_354 (by decide) ?_
        exact ih_30 (i + 5) _ _ _ ⟨by omega, ⟨cnt, ((xs (i + 1)) &&& 255), 0, tl, w, sk, pb, nu, so, fa, fb, ne, mk, w2, sk2, pb2, nu2, so2, fa2, fb2, ne2, mk2, fS, fA, fB, fN, fM, fL, fT, 0, mw, pl, wa, fo, se, gS, gA, gB, gN, gM, gL, ⟨hcnt, Or.inl rfl, eS, eA, eB, eN, eM, eL, hok, htl⟩, hP, hD⟩, hS, lv_sub hl [0, 1, 2, 3] rfl⟩ (by omega)
      · have c_215 := r_215
        exact absurd r_193 r_215
    · have c_193 := r_193
      refine lv_iconst (v := 1) hx hb d_L_law_196 (by decide) ?_
      refine lv_goto (tgt := 201) hx hb d_L_law_197 (by decide) ?_
      refine cx_cv (wr := [(xM, .inr (0, [.long w, .int sk, .int pb, .int nu, .int so, .int fa, .int fb, .int ne, .int mk])), (xO, .inr (0, [.long w2, .int sk2, .int pb2, .int nu2, .int so2, .int fa2, .int fb2, .int ne2, .int mk2])), (xS, .inl (K.1, 62, .inl fS)), (xA, .inl (K.1, 62, .inl fA)), (xB, .inl (K.1, 62, .inl fB)), (xN, .inl (K.1, 62, .inl fN)), (xK, .inl (K.1, 62, .inl fM)), (xL, .inl (K.2.1, 62, .inl fL)), (xT, .inl (K.2.2, 992, .inl fT)), (y, .inr (2, [.int cd, .long seed, .long mw, .int (nI cnt), .int vb, .int pl, .int vs, .ref yS, .ref yA, .ref yB, .ref yN, .ref yK, .ref yL, .int wa, .int fo, .int se])), (yS, .inl (K.1, 124, .inl gS)), (yA, .inl (K.1, 124, .inl gA)), (yB, .inl (K.1, 124, .inl gB)), (yN, .inl (K.1, 124, .inl gN)), (yK, .inl (K.1, 124, .inl gM)), (yL, .inl (K.2.1, 62, .inl gL))]) (wN := [(x, .inr (1, [.long seed, .ref xM, .ref xO, .int (nI cnt), .ref xS, .ref xA, .ref xB, .ref xN, .ref xK, .ref xL, .int ((xs (i + 1)) &&& 255), .int 1, .ref xT, .int tl])), (xM, .inr (0, [.long w, .int sk, .int pb, .int nu, .int so, .int fa, .int fb, .int ne, .int mk])), (xO, .inr (0, [.long w2, .int sk2, .int pb2, .int nu2, .int so2, .int fa2, .int fb2, .int ne2, .int mk2])), (xS, .inl (K.1, 62, .inl fS)), (xA, .inl (K.1, 62, .inl fA)), (xB, .inl (K.1, 62, .inl fB)), (xN, .inl (K.1, 62, .inl fN)), (xK, .inl (K.1, 62, .inl fM)), (xL, .inl (K.2.1, 62, .inl fL)), (xT, .inl (K.2.2, 992, .inl fT)), (y, .inr (2, [.int cd, .long seed, .long mw, .int (nI cnt), .int vb, .int pl, .int vs, .ref yS, .ref yA, .ref yB, .ref yN, .ref yK, .ref yL, .int wa, .int fo, .int se])), (yS, .inl (K.1, 124, .inl gS)), (yA, .inl (K.1, 124, .inl gA)), (yB, .inl (K.1, 124, .inl gB)), (yN, .inl (K.1, 124, .inl gN)), (yK, .inl (K.1, 124, .inl gM)), (yL, .inl (K.2.1, 62, .inl gL))]) (va_runV (As := [.int (xs (i + 1)), .int 1]) (rest := []) ⟨hx, hb, hml, hown, hw⟩ (c_B_verdict l G D K H.size x seed xM xO cnt xS xA xB xN xK xL vb vs xT tl (xs (i + 1)) 1 (Or.inr rfl)) (cwV 2 hw (cx_gV k_246 k_247 k_248 k_1 k_249) rfl rfl rfl (by decide +kernel) ⟨Nat.le_of_ble_eq_true rfl, Nat.le_of_ble_eq_true rfl⟩) (cx_preV (q0 := 0) (ci := 1) hK hP hD hS hA hE rfl rfl [0] rfl rfl (by decide)) rfl rfl hl.1 rfl (lv_room (Nat.le_of_ble_eq_true rfl)) d_L_law_201 ⟨Nat.le_of_ble_eq_true rfl, Nat.le_of_ble_eq_true rfl⟩) hP hD hS hA [0] [1, 2, 3, 4, 5, 6, 7, 8, 9, 10, 11, 12, 13, 14, 15, 16] rfl rfl (by decide) (by decide) [16, 0, 1, 2, 3, 4, 5, 6, 7, 8, 9, 10, 11, 12, 13, 14, 15] rfl rfl (by decide) (fun H locs hP hD hS => ?_)
      refine lv_aload_n hx hb d_L_law_204 rfl (lv_at hl 2 rfl) ?_
      refine lv_aload_n hx hb d_L_law_205 rfl (lv_at hl 3 rfl) ?_
      refine lv_iload_n hx hb d_L_law_206 rfl (lv_at hl 0 rfl) ?_
      refine lv_iconst (v := 1) hx hb d_L_law_207 (by decide) ?_
      refine lv_iadd hx hb d_L_law_208 ?_
      refine cx_ti (y := nI (i + 1)) (by exact nI_add i 1) ?_
      refine va_sld hx hb hX hbl hbA hS (vp_in_nI (n := i + 1) (by omega) (by omega)) d_L_law_209 ?_
      refine cx_ti (y := xs (i + 1)) (by rw [nI_clamp (by omega)]) ?_
      refine lv_aload_n hx hb d_L_law_210 rfl (lv_at hl 3 rfl) ?_
      refine lv_iload_n hx hb d_L_law_211 rfl (lv_at hl 0 rfl) ?_
      refine lv_iconst (v := 2) hx hb d_L_law_212 (by decide) ?_
      refine lv_iadd hx hb d_L_law_213 ?_
      refine cx_ti (y := nI (i + 2)) (by exact nI_add i 2) ?_
      refine va_sld hx hb hX hbl hbA hS (vp_in_nI (n := i + 2) (by omega) (by omega)) d_L_law_214 ?_
      refine cx_ti (y := xs (i + 2)) (by rw [nI_clamp (by omega)]) ?_
      refine lv_if_eq (tgt := 222) hx hb d_L_law_215 (by decide) (fun r_215 => ?_) (fun r_215 => ?_)
      · have c_215 := r_215
        exact absurd r_215 r_193
      · have c_215 := r_215
        refine lv_iconst (v := 1) hx hb d_L_law_218 (by decide) ?_
        refine lv_goto (tgt := 223) hx hb d_L_law_219 (by decide) ?_
        refine cx_cv (wr := [(x, .inr (1, [.long seed, .ref xM, .ref xO, .int (nI cnt), .ref xS, .ref xA, .ref xB, .ref xN, .ref xK, .ref xL, .int ((xs (i + 1)) &&& 255), .int 1, .ref xT, .int tl])), (xM, .inr (0, [.long w, .int sk, .int pb, .int nu, .int so, .int fa, .int fb, .int ne, .int mk])), (xO, .inr (0, [.long w2, .int sk2, .int pb2, .int nu2, .int so2, .int fa2, .int fb2, .int ne2, .int mk2])), (xS, .inl (K.1, 62, .inl fS)), (xA, .inl (K.1, 62, .inl fA)), (xB, .inl (K.1, 62, .inl fB)), (xN, .inl (K.1, 62, .inl fN)), (xK, .inl (K.1, 62, .inl fM)), (xL, .inl (K.2.1, 62, .inl fL)), (xT, .inl (K.2.2, 992, .inl fT)), (yS, .inl (K.1, 124, .inl gS)), (yA, .inl (K.1, 124, .inl gA)), (yB, .inl (K.1, 124, .inl gB)), (yN, .inl (K.1, 124, .inl gN)), (yK, .inl (K.1, 124, .inl gM)), (yL, .inl (K.2.1, 62, .inl gL))]) (wN := [(x, .inr (1, [.long seed, .ref xM, .ref xO, .int (nI cnt), .ref xS, .ref xA, .ref xB, .ref xN, .ref xK, .ref xL, .int ((xs (i + 1)) &&& 255), .int 1, .ref xT, .int tl])), (xM, .inr (0, [.long w, .int sk, .int pb, .int nu, .int so, .int fa, .int fb, .int ne, .int mk])), (xO, .inr (0, [.long w2, .int sk2, .int pb2, .int nu2, .int so2, .int fa2, .int fb2, .int ne2, .int mk2])), (xS, .inl (K.1, 62, .inl fS)), (xA, .inl (K.1, 62, .inl fA)), (xB, .inl (K.1, 62, .inl fB)), (xN, .inl (K.1, 62, .inl fN)), (xK, .inl (K.1, 62, .inl fM)), (xL, .inl (K.2.1, 62, .inl fL)), (xT, .inl (K.2.2, 992, .inl fT)), (y, .inr (2, [.int 0, .long seed, .long mw, .int (nI cnt), .int ((xs (i + 1)) &&& 255), .int pl, .int 1, .ref yS, .ref yA, .ref yB, .ref yN, .ref yK, .ref yL, .int wa, .int fo, .int se])), (yS, .inl (K.1, 124, .inl gS)), (yA, .inl (K.1, 124, .inl gA)), (yB, .inl (K.1, 124, .inl gB)), (yN, .inl (K.1, 124, .inl gN)), (yK, .inl (K.1, 124, .inl gM)), (yL, .inl (K.2.1, 62, .inl gL))]) (va_runV (As := [.int (xs (i + 1)), .int 1]) (rest := []) ⟨hx, hb, hml, hown, hw⟩ (c_M_verdict l G D K H.size y cd seed mw cnt vb pl vs yS yA yB yN yK yL wa fo se (xs (i + 1)) 1 (Or.inr rfl)) (cwV 2 hw (cx_gV k_381 k_382 k_383 k_3 k_384) rfl rfl rfl (by decide +kernel) ⟨Nat.le_of_ble_eq_true rfl, Nat.le_of_ble_eq_true rfl⟩) (cx_preV (q0 := 10) (ci := 2) hK hP hD hS hA hE rfl rfl [10] rfl rfl (by decide)) rfl rfl hl.1 rfl (lv_room (Nat.le_of_ble_eq_true rfl)) d_L_law_223 ⟨Nat.le_of_ble_eq_true rfl, Nat.le_of_ble_eq_true rfl⟩) hP hD hS hA [10] [0, 1, 2, 3, 4, 5, 6, 7, 8, 9, 11, 12, 13, 14, 15, 16] rfl rfl (by decide) (by decide) [0, 1, 2, 3, 4, 5, 6, 7, 8, 9, 16, 10, 11, 12, 13, 14, 15] rfl rfl (by decide) (fun H locs hP hD hS => ?_)
        refine lv_goto (tgt := 351) hx hb d_L_law_226 (by decide) ?_
        refine lv_iinc (v := nI (i + 5)) (lv' := [(3, .int (nI (i + 5))), (1, .ref x), (2, .ref y), (0, .ref b)]) hx hb d_L_law_351 hl (k := 0) rfl (by exact nI_add i 5) (by decide) rfl (fun ls hl => ?_)
        refine lv_goto (tgt := 30) hx hb d_L_law_354 (by decide) ?_
        exact ih_30 (i + 5) _ _ _ ⟨by omega, ⟨cnt, ((xs (i + 1)) &&& 255), 1, tl, w, sk, pb, nu, so, fa, fb, ne, mk, w2, sk2, pb2, nu2, so2, fa2, fb2, ne2, mk2, fS, fA, fB, fN, fM, fL, fT, 0, mw, pl, wa, fo, se, gS, gA, gB, gN, gM, gL, ⟨hcnt, Or.inr rfl, eS, eA, eB, eN, eM, eL, hok, htl⟩, hP, hD⟩, hS, lv_sub hl [0, 1, 2, 3] rfl⟩ (by omega)
  · refine lv_tableIn (tgt := 229) (off := 185) hx hb d_L_law_44 (by decide) (by decide) (by rfl) (by decide) ?_
    refine lv_aload_n hx hb d_L_law_229 rfl (lv_at hl 1 rfl) ?_
    refine cx_ci (wr := [(xM, .inr (0, [.long w, .int sk, .int pb, .int nu, .int so, .int fa, .int fb, .int ne, .int mk])), (xO, .inr (0, [.long w2, .int sk2, .int pb2, .int nu2, .int so2, .int fa2, .int fb2, .int ne2, .int mk2])), (xS, .inl (K.1, 62, .inl fS)), (xA, .inl (K.1, 62, .inl fA)), (xB, .inl (K.1, 62, .inl fB)), (xT, .inl (K.2.2, 992, .inl fT)), (y, .inr (2, [.int cd, .long seed, .long mw, .int (nI cnt), .int vb, .int pl, .int vs, .ref yS, .ref yA, .ref yB, .ref yN, .ref yK, .ref yL, .int wa, .int fo, .int se])), (yS, .inl (K.1, 124, .inl gS)), (yA, .inl (K.1, 124, .inl gA)), (yB, .inl (K.1, 124, .inl gB)), (yN, .inl (K.1, 124, .inl gN)), (yK, .inl (K.1, 124, .inl gM)), (yL, .inl (K.2.1, 62, .inl gL))]) (wN := [(x, .inr (1, [.long seed, .ref xM, .ref xO, .int (nI cnt), .ref xS, .ref xA, .ref xB, .ref xN, .ref xK, .ref xL, .int vb, .int vs, .ref xT, .int (-1)])), (xM, .inr (0, [.long w, .int sk, .int pb, .int nu, .int so, .int fa, .int fb, .int ne, .int mk])), (xO, .inr (0, [.long w2, .int sk2, .int pb2, .int nu2, .int so2, .int fa2, .int fb2, .int ne2, .int mk2])), (xS, .inl (K.1, 62, .inl fS)), (xA, .inl (K.1, 62, .inl fA)), (xB, .inl (K.1, 62, .inl fB)), (xN, .inl (K.1, 62, .inl fN)), (xK, .inl (K.1, 62, .inl fM)), (xL, .inl (K.2.1, 62, .inl (bd_sh fL fN fM vb vs cnt))), (xT, .inl (K.2.2, 992, .inl fT)), (y, .inr (2, [.int cd, .long seed, .long mw, .int (nI cnt), .int vb, .int pl, .int vs, .ref yS, .ref yA, .ref yB, .ref yN, .ref yK, .ref yL, .int wa, .int fo, .int se])), (yS, .inl (K.1, 124, .inl gS)), (yA, .inl (K.1, 124, .inl gA)), (yB, .inl (K.1, 124, .inl gB)), (yN, .inl (K.1, 124, .inl gN)), (yK, .inl (K.1, 124, .inl gM)), (yL, .inl (K.2.1, 62, .inl gL))]) (va_runV (As := []) (rest := []) ⟨hx, hb, hml, hown, hw⟩ (c_B_shorter l G D K H.size x seed xM xO cnt xS xA xB xN xK xL vb vs xT tl fL fN fM (by omega)) (cwV 0 hw (cx_gV k_250 k_251 k_252 k_1 k_253) rfl rfl rfl (by decide +kernel) ⟨Nat.le_of_ble_eq_true rfl, Nat.le_of_ble_eq_true rfl⟩) (cx_preV (q0 := 0) (ci := 1) hK hP hD hS hA hE rfl rfl [0, 8, 6, 7] rfl rfl (by decide)) rfl rfl hl.1 rfl (lv_room (Nat.le_of_ble_eq_true rfl)) d_L_law_230 ⟨Nat.le_of_ble_eq_true rfl, Nat.le_of_ble_eq_true rfl⟩) hP hD hS hA [0, 8, 6, 7] [1, 2, 3, 4, 5, 9, 10, 11, 12, 13, 14, 15, 16] rfl rfl (by decide) (by decide) [13, 0, 1, 2, 3, 4, 15, 16, 14, 5, 6, 7, 8, 9, 10, 11, 12] rfl rfl (by decide) (fun H locs hP hD hS => ?_)
    refine lv_aload_n hx hb d_L_law_233 rfl (lv_at hl 2 rfl) ?_
    refine cx_ci (wr := [(x, .inr (1, [.long seed, .ref xM, .ref xO, .int (nI cnt), .ref xS, .ref xA, .ref xB, .ref xN, .ref xK, .ref xL, .int vb, .int vs, .ref xT, .int (-1)])), (xM, .inr (0, [.long w, .int sk, .int pb, .int nu, .int so, .int fa, .int fb, .int ne, .int mk])), (xO, .inr (0, [.long w2, .int sk2, .int pb2, .int nu2, .int so2, .int fa2, .int fb2, .int ne2, .int mk2])), (xS, .inl (K.1, 62, .inl fS)), (xA, .inl (K.1, 62, .inl fA)), (xB, .inl (K.1, 62, .inl fB)), (xN, .inl (K.1, 62, .inl fN)), (xK, .inl (K.1, 62, .inl fM)), (xL, .inl (K.2.1, 62, .inl (bd_sh fL fN fM vb vs cnt))), (xT, .inl (K.2.2, 992, .inl fT)), (yS, .inl (K.1, 124, .inl gS)), (yA, .inl (K.1, 124, .inl gA)), (yB, .inl (K.1, 124, .inl gB))]) (wN := [(x, .inr (1, [.long seed, .ref xM, .ref xO, .int (nI cnt), .ref xS, .ref xA, .ref xB, .ref xN, .ref xK, .ref xL, .int vb, .int vs, .ref xT, .int (-1)])), (xM, .inr (0, [.long w, .int sk, .int pb, .int nu, .int so, .int fa, .int fb, .int ne, .int mk])), (xO, .inr (0, [.long w2, .int sk2, .int pb2, .int nu2, .int so2, .int fa2, .int fb2, .int ne2, .int mk2])), (xS, .inl (K.1, 62, .inl fS)), (xA, .inl (K.1, 62, .inl fA)), (xB, .inl (K.1, 62, .inl fB)), (xN, .inl (K.1, 62, .inl fN)), (xK, .inl (K.1, 62, .inl fM)), (xL, .inl (K.2.1, 62, .inl (bd_sh fL fN fM vb vs cnt))), (xT, .inl (K.2.2, 992, .inl fT)), (y, .inr (2, [.int 0, .long seed, .long mw, .int (nI cnt), .int vb, .int pl, .int vs, .ref yS, .ref yA, .ref yB, .ref yN, .ref yK, .ref yL, .int wa, .int fo, .int se])), (yS, .inl (K.1, 124, .inl gS)), (yA, .inl (K.1, 124, .inl gA)), (yB, .inl (K.1, 124, .inl gB)), (yN, .inl (K.1, 124, .inl gN)), (yK, .inl (K.1, 124, .inl gM)), (yL, .inl (K.2.1, 62, .inl (bd_sh gL gN gM vb vs cnt)))]) (va_runV (As := []) (rest := [.int (nI (bd_cl (bd_sh fL fN fM vb vs cnt) cnt))]) ⟨hx, hb, hml, hown, hw⟩ (c_M_shorter l G D K H.size y cd seed mw cnt vb pl vs yS yA yB yN yK yL wa fo se gL gN gM (by omega)) (cwV 0 hw (cx_gV k_385 k_386 k_387 k_3 k_388) rfl rfl rfl (by decide +kernel) ⟨Nat.le_of_ble_eq_true rfl, Nat.le_of_ble_eq_true rfl⟩) (cx_preV (q0 := 10) (ci := 2) hK hP hD hS hA hE rfl rfl [10, 16, 14, 15] rfl rfl (by decide)) rfl rfl hl.1 rfl (lv_room (Nat.le_of_ble_eq_true rfl)) d_L_law_234 ⟨Nat.le_of_ble_eq_true rfl, Nat.le_of_ble_eq_true rfl⟩) hP hD hS hA [10, 16, 14, 15] [0, 1, 2, 3, 4, 5, 6, 7, 8, 9, 11, 12, 13] rfl rfl (by decide) (by decide) [0, 1, 2, 3, 4, 5, 6, 7, 8, 9, 13, 10, 11, 12, 15, 16, 14] rfl rfl (by decide) (fun H locs hP hD hS => ?_)
    refine lv_icmp_eq (tgt := 351) hx hb d_L_law_237 (by decide) (fun r_237 => ?_) (fun r_237 => ?_)
    · have c_237 := r_237
      refine lv_iinc (v := nI (i + 5)) (lv' := [(3, .int (nI (i + 5))), (1, .ref x), (2, .ref y), (0, .ref b)]) hx hb d_L_law_351 hl (k := 0) rfl (by exact nI_add i 5) (by decide) rfl (fun ls hl => ?_)
      refine lv_goto (tgt := 30) hx hb d_L_law_354 (by decide) ?_
      exact ih_30 (i + 5) _ _ _ ⟨by omega, ⟨cnt, vb, vs, (-1), w, sk, pb, nu, so, fa, fb, ne, mk, w2, sk2, pb2, nu2, so2, fa2, fb2, ne2, mk2, fS, fA, fB, fN, fM, (bd_sh fL fN fM vb vs cnt), fT, 0, mw, pl, wa, fo, se, gS, gA, gB, gN, gM, (bd_sh gL gN gM vb vs cnt), ⟨hcnt, hvs, eS, eA, eB, eN, eM, bd_sh_c eL eN eM, hok, Or.inl rfl⟩, hP, hD⟩, hS, lv_sub hl [0, 1, 2, 3] rfl⟩ (by omega)
    · have c_237 := r_237
      exact absurd (by rw [bd_cl_c (bd_sh_c eL eN eM)]) r_237
  · refine lv_tableIn (tgt := 242) (off := 198) hx hb d_L_law_44 (by decide) (by decide) (by rfl) (by decide) ?_
    refine lv_aload_n hx hb d_L_law_242 rfl (lv_at hl 1 rfl) ?_
    refine lv_aload_n hx hb d_L_law_243 rfl (lv_at hl 3 rfl) ?_
    refine lv_iload_n hx hb d_L_law_244 rfl (lv_at hl 0 rfl) ?_
    refine lv_iconst (v := 1) hx hb d_L_law_245 (by decide) ?_
    refine lv_iadd hx hb d_L_law_246 ?_
    refine cx_ti (y := nI (i + 1)) (by exact nI_add i 1) ?_
    refine va_sld hx hb hX hbl hbA hS (vp_in_nI (n := i + 1) (by omega) (by omega)) d_L_law_247 ?_
    refine cx_ti (y := xs (i + 1)) (by rw [nI_clamp (by omega)]) ?_
    refine cx_ci (wr := [(xM, .inr (0, [.long w, .int sk, .int pb, .int nu, .int so, .int fa, .int fb, .int ne, .int mk])), (xO, .inr (0, [.long w2, .int sk2, .int pb2, .int nu2, .int so2, .int fa2, .int fb2, .int ne2, .int mk2])), (xS, .inl (K.1, 62, .inl fS)), (xA, .inl (K.1, 62, .inl fA)), (xB, .inl (K.1, 62, .inl fB)), (xN, .inl (K.1, 62, .inl fN)), (xK, .inl (K.1, 62, .inl fM)), (xT, .inl (K.2.2, 992, .inl fT)), (y, .inr (2, [.int cd, .long seed, .long mw, .int (nI cnt), .int vb, .int pl, .int vs, .ref yS, .ref yA, .ref yB, .ref yN, .ref yK, .ref yL, .int wa, .int fo, .int se])), (yS, .inl (K.1, 124, .inl gS)), (yA, .inl (K.1, 124, .inl gA)), (yB, .inl (K.1, 124, .inl gB)), (yN, .inl (K.1, 124, .inl gN)), (yK, .inl (K.1, 124, .inl gM)), (yL, .inl (K.2.1, 62, .inl gL))]) (wN := [(x, .inr (1, [.long seed, .ref xM, .ref xO, .int (nI cnt), .ref xS, .ref xA, .ref xB, .ref xN, .ref xK, .ref xL, .int vb, .int vs, .ref xT, .int tl])), (xM, .inr (0, [.long w, .int sk, .int pb, .int nu, .int so, .int fa, .int fb, .int ne, .int mk])), (xO, .inr (0, [.long w2, .int sk2, .int pb2, .int nu2, .int so2, .int fa2, .int fb2, .int ne2, .int mk2])), (xS, .inl (K.1, 62, .inl fS)), (xA, .inl (K.1, 62, .inl fA)), (xB, .inl (K.1, 62, .inl fB)), (xN, .inl (K.1, 62, .inl fN)), (xK, .inl (K.1, 62, .inl fM)), (xL, .inl (K.2.1, 62, .inl fL)), (xT, .inl (K.2.2, 992, .inl fT)), (y, .inr (2, [.int cd, .long seed, .long mw, .int (nI cnt), .int vb, .int pl, .int vs, .ref yS, .ref yA, .ref yB, .ref yN, .ref yK, .ref yL, .int wa, .int fo, .int se])), (yS, .inl (K.1, 124, .inl gS)), (yA, .inl (K.1, 124, .inl gA)), (yB, .inl (K.1, 124, .inl gB)), (yN, .inl (K.1, 124, .inl gN)), (yK, .inl (K.1, 124, .inl gM)), (yL, .inl (K.2.1, 62, .inl gL))]) (va_runV (As := [.int (xs (i + 1))]) (rest := []) ⟨hx, hb, hml, hown, hw⟩ (c_B_left l G D K H.size x seed xM xO cnt xS xA xB xN xK xL vb vs xT tl fL (xs (i + 1)) (by omega)) (cwV 1 hw (cx_gV k_278 k_279 k_280 k_1 k_281) rfl rfl rfl (by decide +kernel) ⟨Nat.le_of_ble_eq_true rfl, Nat.le_of_ble_eq_true rfl⟩) (cx_preV (q0 := 0) (ci := 1) hK hP hD hS hA hE rfl rfl [0, 8] rfl rfl (by decide)) rfl rfl hl.1 rfl (lv_room (Nat.le_of_ble_eq_true rfl)) d_L_law_248 ⟨Nat.le_of_ble_eq_true rfl, Nat.le_of_ble_eq_true rfl⟩) hP hD hS hA [0, 8] [1, 2, 3, 4, 5, 6, 7, 9, 10, 11, 12, 13, 14, 15, 16] rfl rfl (by decide) (by decide) [15, 0, 1, 2, 3, 4, 5, 6, 16, 7, 8, 9, 10, 11, 12, 13, 14] rfl rfl (by decide) (fun H locs hP hD hS => ?_)
    refine lv_aload_n hx hb d_L_law_251 rfl (lv_at hl 2 rfl) ?_
    refine lv_aload_n hx hb d_L_law_252 rfl (lv_at hl 3 rfl) ?_
    refine lv_iload_n hx hb d_L_law_253 rfl (lv_at hl 0 rfl) ?_
    refine lv_iconst (v := 1) hx hb d_L_law_254 (by decide) ?_
    refine lv_iadd hx hb d_L_law_255 ?_
    refine cx_ti (y := nI (i + 1)) (by exact nI_add i 1) ?_
    refine va_sld hx hb hX hbl hbA hS (vp_in_nI (n := i + 1) (by omega) (by omega)) d_L_law_256 ?_
    refine cx_ti (y := xs (i + 1)) (by rw [nI_clamp (by omega)]) ?_
    refine cx_ci (wr := [(x, .inr (1, [.long seed, .ref xM, .ref xO, .int (nI cnt), .ref xS, .ref xA, .ref xB, .ref xN, .ref xK, .ref xL, .int vb, .int vs, .ref xT, .int tl])), (xM, .inr (0, [.long w, .int sk, .int pb, .int nu, .int so, .int fa, .int fb, .int ne, .int mk])), (xO, .inr (0, [.long w2, .int sk2, .int pb2, .int nu2, .int so2, .int fa2, .int fb2, .int ne2, .int mk2])), (xS, .inl (K.1, 62, .inl fS)), (xA, .inl (K.1, 62, .inl fA)), (xB, .inl (K.1, 62, .inl fB)), (xN, .inl (K.1, 62, .inl fN)), (xK, .inl (K.1, 62, .inl fM)), (xL, .inl (K.2.1, 62, .inl fL)), (xT, .inl (K.2.2, 992, .inl fT)), (yS, .inl (K.1, 124, .inl gS)), (yA, .inl (K.1, 124, .inl gA)), (yB, .inl (K.1, 124, .inl gB)), (yN, .inl (K.1, 124, .inl gN)), (yK, .inl (K.1, 124, .inl gM))]) (wN := [(x, .inr (1, [.long seed, .ref xM, .ref xO, .int (nI cnt), .ref xS, .ref xA, .ref xB, .ref xN, .ref xK, .ref xL, .int vb, .int vs, .ref xT, .int tl])), (xM, .inr (0, [.long w, .int sk, .int pb, .int nu, .int so, .int fa, .int fb, .int ne, .int mk])), (xO, .inr (0, [.long w2, .int sk2, .int pb2, .int nu2, .int so2, .int fa2, .int fb2, .int ne2, .int mk2])), (xS, .inl (K.1, 62, .inl fS)), (xA, .inl (K.1, 62, .inl fA)), (xB, .inl (K.1, 62, .inl fB)), (xN, .inl (K.1, 62, .inl fN)), (xK, .inl (K.1, 62, .inl fM)), (xL, .inl (K.2.1, 62, .inl fL)), (xT, .inl (K.2.2, 992, .inl fT)), (y, .inr (2, [.int 0, .long seed, .long mw, .int (nI cnt), .int vb, .int pl, .int vs, .ref yS, .ref yA, .ref yB, .ref yN, .ref yK, .ref yL, .int wa, .int fo, .int se])), (yS, .inl (K.1, 124, .inl gS)), (yA, .inl (K.1, 124, .inl gA)), (yB, .inl (K.1, 124, .inl gB)), (yN, .inl (K.1, 124, .inl gN)), (yK, .inl (K.1, 124, .inl gM)), (yL, .inl (K.2.1, 62, .inl gL))]) (va_runV (As := [.int (xs (i + 1))]) (rest := [.int (bd_left fL cnt (xs (i + 1)))]) ⟨hx, hb, hml, hown, hw⟩ (c_M_left l G D K H.size y cd seed mw cnt vb pl vs yS yA yB yN yK yL wa fo se gL (xs (i + 1)) (by omega)) (cwV 1 hw (cx_gV k_405 k_406 k_407 k_3 k_408) rfl rfl rfl (by decide +kernel) ⟨Nat.le_of_ble_eq_true rfl, Nat.le_of_ble_eq_true rfl⟩) (cx_preV (q0 := 10) (ci := 2) hK hP hD hS hA hE rfl rfl [10, 16] rfl rfl (by decide)) rfl rfl hl.1 rfl (lv_room (Nat.le_of_ble_eq_true rfl)) d_L_law_257 ⟨Nat.le_of_ble_eq_true rfl, Nat.le_of_ble_eq_true rfl⟩) hP hD hS hA [10, 16] [0, 1, 2, 3, 4, 5, 6, 7, 8, 9, 11, 12, 13, 14, 15] rfl rfl (by decide) (by decide) [0, 1, 2, 3, 4, 5, 6, 7, 8, 9, 15, 10, 11, 12, 13, 14, 16] rfl rfl (by decide) (fun H locs hP hD hS => ?_)
    refine lv_icmp_eq (tgt := 351) hx hb d_L_law_260 (by decide) (fun r_260 => ?_) (fun r_260 => ?_)
    · have c_260 := r_260
      refine lv_iinc (v := nI (i + 5)) (lv' := [(3, .int (nI (i + 5))), (1, .ref x), (2, .ref y), (0, .ref b)]) hx hb d_L_law_351 hl (k := 0) rfl (by exact nI_add i 5) (by decide) rfl (fun ls hl => ?_)
      refine lv_goto (tgt := 30) hx hb d_L_law_354 (by decide) ?_
      exact ih_30 (i + 5) _ _ _ ⟨by omega, ⟨cnt, vb, vs, tl, w, sk, pb, nu, so, fa, fb, ne, mk, w2, sk2, pb2, nu2, so2, fa2, fb2, ne2, mk2, fS, fA, fB, fN, fM, fL, fT, 0, mw, pl, wa, fo, se, gS, gA, gB, gN, gM, gL, hR, hP, hD⟩, hS, lv_sub hl [0, 1, 2, 3] rfl⟩ (by omega)
    · have c_260 := r_260
      exact absurd (bd_left_c eL) r_260
  · refine lv_tableIn (tgt := 265) (off := 221) hx hb d_L_law_44 (by decide) (by decide) (by rfl) (by decide) ?_
    refine lv_aload_n hx hb d_L_law_265 rfl (lv_at hl 1 rfl) ?_
    refine cx_ci (wr := [(xM, .inr (0, [.long w, .int sk, .int pb, .int nu, .int so, .int fa, .int fb, .int ne, .int mk])), (xO, .inr (0, [.long w2, .int sk2, .int pb2, .int nu2, .int so2, .int fa2, .int fb2, .int ne2, .int mk2])), (xS, .inl (K.1, 62, .inl fS)), (xA, .inl (K.1, 62, .inl fA)), (xB, .inl (K.1, 62, .inl fB)), (xT, .inl (K.2.2, 992, .inl fT)), (y, .inr (2, [.int cd, .long seed, .long mw, .int (nI cnt), .int vb, .int pl, .int vs, .ref yS, .ref yA, .ref yB, .ref yN, .ref yK, .ref yL, .int wa, .int fo, .int se])), (yS, .inl (K.1, 124, .inl gS)), (yA, .inl (K.1, 124, .inl gA)), (yB, .inl (K.1, 124, .inl gB)), (yN, .inl (K.1, 124, .inl gN)), (yK, .inl (K.1, 124, .inl gM)), (yL, .inl (K.2.1, 62, .inl gL))]) (wN := [(x, .inr (1, [.long seed, .ref xM, .ref xO, .int (nI cnt), .ref xS, .ref xA, .ref xB, .ref xN, .ref xK, .ref xL, .int vb, .int vs, .ref xT, .int tl])), (xM, .inr (0, [.long w, .int sk, .int pb, .int nu, .int so, .int fa, .int fb, .int ne, .int mk])), (xO, .inr (0, [.long w2, .int sk2, .int pb2, .int nu2, .int so2, .int fa2, .int fb2, .int ne2, .int mk2])), (xS, .inl (K.1, 62, .inl fS)), (xA, .inl (K.1, 62, .inl fA)), (xB, .inl (K.1, 62, .inl fB)), (xN, .inl (K.1, 62, .inl fN)), (xK, .inl (K.1, 62, .inl fM)), (xL, .inl (K.2.1, 62, .inl fL)), (xT, .inl (K.2.2, 992, .inl fT)), (y, .inr (2, [.int cd, .long seed, .long mw, .int (nI cnt), .int vb, .int pl, .int vs, .ref yS, .ref yA, .ref yB, .ref yN, .ref yK, .ref yL, .int wa, .int fo, .int se])), (yS, .inl (K.1, 124, .inl gS)), (yA, .inl (K.1, 124, .inl gA)), (yB, .inl (K.1, 124, .inl gB)), (yN, .inl (K.1, 124, .inl gN)), (yK, .inl (K.1, 124, .inl gM)), (yL, .inl (K.2.1, 62, .inl gL))]) (va_runV (As := []) (rest := []) ⟨hx, hb, hml, hown, hw⟩ (c_B_minimal l G D K H.size x seed xM xO cnt xS xA xB xN xK xL vb vs xT tl fL fN fM (by omega)) (cwV 0 hw (cx_gV k_282 k_283 k_284 k_1 k_285) rfl rfl rfl (by decide +kernel) ⟨Nat.le_of_ble_eq_true rfl, Nat.le_of_ble_eq_true rfl⟩) (cx_preV (q0 := 0) (ci := 1) hK hP hD hS hA hE rfl rfl [0, 8, 6, 7] rfl rfl (by decide)) rfl rfl hl.1 rfl (lv_room (Nat.le_of_ble_eq_true rfl)) d_L_law_266 ⟨Nat.le_of_ble_eq_true rfl, Nat.le_of_ble_eq_true rfl⟩) hP hD hS hA [0, 8, 6, 7] [1, 2, 3, 4, 5, 9, 10, 11, 12, 13, 14, 15, 16] rfl rfl (by decide) (by decide) [13, 0, 1, 2, 3, 4, 15, 16, 14, 5, 6, 7, 8, 9, 10, 11, 12] rfl rfl (by decide) (fun H locs hP hD hS => ?_)
    refine lv_aload_n hx hb d_L_law_269 rfl (lv_at hl 2 rfl) ?_
    refine cx_ci (wr := [(x, .inr (1, [.long seed, .ref xM, .ref xO, .int (nI cnt), .ref xS, .ref xA, .ref xB, .ref xN, .ref xK, .ref xL, .int vb, .int vs, .ref xT, .int tl])), (xM, .inr (0, [.long w, .int sk, .int pb, .int nu, .int so, .int fa, .int fb, .int ne, .int mk])), (xO, .inr (0, [.long w2, .int sk2, .int pb2, .int nu2, .int so2, .int fa2, .int fb2, .int ne2, .int mk2])), (xS, .inl (K.1, 62, .inl fS)), (xA, .inl (K.1, 62, .inl fA)), (xB, .inl (K.1, 62, .inl fB)), (xN, .inl (K.1, 62, .inl fN)), (xK, .inl (K.1, 62, .inl fM)), (xL, .inl (K.2.1, 62, .inl fL)), (xT, .inl (K.2.2, 992, .inl fT)), (yS, .inl (K.1, 124, .inl gS)), (yA, .inl (K.1, 124, .inl gA)), (yB, .inl (K.1, 124, .inl gB))]) (wN := [(x, .inr (1, [.long seed, .ref xM, .ref xO, .int (nI cnt), .ref xS, .ref xA, .ref xB, .ref xN, .ref xK, .ref xL, .int vb, .int vs, .ref xT, .int tl])), (xM, .inr (0, [.long w, .int sk, .int pb, .int nu, .int so, .int fa, .int fb, .int ne, .int mk])), (xO, .inr (0, [.long w2, .int sk2, .int pb2, .int nu2, .int so2, .int fa2, .int fb2, .int ne2, .int mk2])), (xS, .inl (K.1, 62, .inl fS)), (xA, .inl (K.1, 62, .inl fA)), (xB, .inl (K.1, 62, .inl fB)), (xN, .inl (K.1, 62, .inl fN)), (xK, .inl (K.1, 62, .inl fM)), (xL, .inl (K.2.1, 62, .inl fL)), (xT, .inl (K.2.2, 992, .inl fT)), (y, .inr (2, [.int 0, .long seed, .long mw, .int (nI cnt), .int vb, .int pl, .int vs, .ref yS, .ref yA, .ref yB, .ref yN, .ref yK, .ref yL, .int wa, .int fo, .int se])), (yS, .inl (K.1, 124, .inl gS)), (yA, .inl (K.1, 124, .inl gA)), (yB, .inl (K.1, 124, .inl gB)), (yN, .inl (K.1, 124, .inl gN)), (yK, .inl (K.1, 124, .inl gM)), (yL, .inl (K.2.1, 62, .inl gL))]) (va_runV (As := []) (rest := [.int (bd_mi (fun k => bd_cg fL fN fM vb vs cnt k) cnt 0)]) ⟨hx, hb, hml, hown, hw⟩ (c_M_minimal l G D K H.size y cd seed mw cnt vb pl vs yS yA yB yN yK yL wa fo se gL gN gM (by omega)) (cwV 0 hw (cx_gV k_401 k_402 k_403 k_3 k_404) rfl rfl rfl (by decide +kernel) ⟨Nat.le_of_ble_eq_true rfl, Nat.le_of_ble_eq_true rfl⟩) (cx_preV (q0 := 10) (ci := 2) hK hP hD hS hA hE rfl rfl [10, 16, 14, 15] rfl rfl (by decide)) rfl rfl hl.1 rfl (lv_room (Nat.le_of_ble_eq_true rfl)) d_L_law_270 ⟨Nat.le_of_ble_eq_true rfl, Nat.le_of_ble_eq_true rfl⟩) hP hD hS hA [10, 16, 14, 15] [0, 1, 2, 3, 4, 5, 6, 7, 8, 9, 11, 12, 13] rfl rfl (by decide) (by decide) [0, 1, 2, 3, 4, 5, 6, 7, 8, 9, 13, 10, 11, 12, 15, 16, 14] rfl rfl (by decide) (fun H locs hP hD hS => ?_)
    refine lv_icmp_eq (tgt := 351) hx hb d_L_law_273 (by decide) (fun r_273 => ?_) (fun r_273 => ?_)
    · have c_273 := r_273
      refine lv_iinc (v := nI (i + 5)) (lv' := [(3, .int (nI (i + 5))), (1, .ref x), (2, .ref y), (0, .ref b)]) hx hb d_L_law_351 hl (k := 0) rfl (by exact nI_add i 5) (by decide) rfl (fun ls hl => ?_)
      refine lv_goto (tgt := 30) hx hb d_L_law_354 (by decide) ?_
      exact ih_30 (i + 5) _ _ _ ⟨by omega, ⟨cnt, vb, vs, tl, w, sk, pb, nu, so, fa, fb, ne, mk, w2, sk2, pb2, nu2, so2, fa2, fb2, ne2, mk2, fS, fA, fB, fN, fM, fL, fT, 0, mw, pl, wa, fo, se, gS, gA, gB, gN, gM, gL, hR, hP, hD⟩, hS, lv_sub hl [0, 1, 2, 3] rfl⟩ (by omega)
    · have c_273 := r_273
      exact absurd (bd_mi_c (fun j hj => bd_cg_c eL eN eM (by omega))) r_273
  · refine lv_tableIn (tgt := 278) (off := 234) hx hb d_L_law_44 (by decide) (by decide) (by rfl) (by decide) ?_
    by_cases hcan : bd_can (xs (i + 3)) (xs (i + 4)) = 0
    · refine lv_aload_n hx hb d_L_law_278 rfl (lv_at hl 1 rfl) ?_
      refine lv_aload_n hx hb d_L_law_279 rfl (lv_at hl 3 rfl) ?_
      refine lv_iload_n hx hb d_L_law_280 rfl (lv_at hl 0 rfl) ?_
      refine lv_iconst (v := 1) hx hb d_L_law_281 (by decide) ?_
      refine lv_iadd hx hb d_L_law_282 ?_
      refine cx_ti (y := nI (i + 1)) (by exact nI_add i 1) ?_
      refine va_sld hx hb hX hbl hbA hS (vp_in_nI (n := i + 1) (by omega) (by omega)) d_L_law_283 ?_
      refine cx_ti (y := xs (i + 1)) (by rw [nI_clamp (by omega)]) ?_
      refine lv_i2l (v := (xs (i + 1)).toInt64) hx hb d_L_law_284 (rfl) ?_
      refine lv_bipush (v := 32) hx hb d_L_law_285 (by decide) ?_
      refine lv_lshl (v := ((xs (i + 1)).toInt64) <<< ((32 : Int32).toInt64 &&& 63)) hx hb d_L_law_287 (rfl) ?_
      refine lv_aload_n hx hb d_L_law_288 rfl (lv_at hl 3 rfl) ?_
      refine lv_iload_n hx hb d_L_law_289 rfl (lv_at hl 0 rfl) ?_
      refine lv_iconst (v := 2) hx hb d_L_law_290 (by decide) ?_
      refine lv_iadd hx hb d_L_law_291 ?_
      refine cx_ti (y := nI (i + 2)) (by exact nI_add i 2) ?_
      refine va_sld hx hb hX hbl hbA hS (vp_in_nI (n := i + 2) (by omega) (by omega)) d_L_law_292 ?_
      refine cx_ti (y := xs (i + 2)) (by rw [nI_clamp (by omega)]) ?_
      refine lv_i2l (v := (xs (i + 2)).toInt64) hx hb d_L_law_293 (rfl) ?_
      refine lv_ldc2 (v := 4294967295) hx hb hown (hw _ k_434) d_L_law_294 ?_
      refine lv_land hx hb d_L_law_297 ?_
      refine lv_lor hx hb d_L_law_298 ?_
      refine cx_tl (y := lw_ot (xs (i + 1)) (xs (i + 2))) (rfl) ?_
      refine lv_aload_n hx hb d_L_law_299 rfl (lv_at hl 3 rfl) ?_
      refine lv_iload_n hx hb d_L_law_300 rfl (lv_at hl 0 rfl) ?_
      refine lv_iconst (v := 3) hx hb d_L_law_301 (by decide) ?_
      refine lv_iadd hx hb d_L_law_302 ?_
      refine cx_ti (y := nI (i + 3)) (by exact nI_add i 3) ?_
      refine va_sld hx hb hX hbl hbA hS (vp_in_nI (n := i + 3) (by omega) (by omega)) d_L_law_303 ?_
      refine cx_ti (y := xs (i + 3)) (by rw [nI_clamp (by omega)]) ?_
      refine lv_aload_n hx hb d_L_law_304 rfl (lv_at hl 3 rfl) ?_
      refine lv_iload_n hx hb d_L_law_305 rfl (lv_at hl 0 rfl) ?_
      refine lv_iconst (v := 4) hx hb d_L_law_306 (by decide) ?_
      refine lv_iadd hx hb d_L_law_307 ?_
      refine cx_ti (y := nI (i + 4)) (by exact nI_add i 4) ?_
      refine va_sld hx hb hX hbl hbA hS (vp_in_nI (n := i + 4) (by omega) (by omega)) d_L_law_308 ?_
      refine cx_ti (y := xs (i + 4)) (by rw [nI_clamp (by omega)]) ?_
      refine cx_ci (wr := [(xM, .inr (0, [.long w, .int sk, .int pb, .int nu, .int so, .int fa, .int fb, .int ne, .int mk])), (xO, .inr (0, [.long w2, .int sk2, .int pb2, .int nu2, .int so2, .int fa2, .int fb2, .int ne2, .int mk2])), (xS, .inl (K.1, 62, .inl fS)), (xA, .inl (K.1, 62, .inl fA)), (xB, .inl (K.1, 62, .inl fB)), (xN, .inl (K.1, 62, .inl fN)), (xK, .inl (K.1, 62, .inl fM)), (xL, .inl (K.2.1, 62, .inl fL)), (xT, .inl (K.2.2, 992, .inl fT)), (y, .inr (2, [.int cd, .long seed, .long mw, .int (nI cnt), .int vb, .int pl, .int vs, .ref yS, .ref yA, .ref yB, .ref yN, .ref yK, .ref yL, .int wa, .int fo, .int se])), (yS, .inl (K.1, 124, .inl gS)), (yA, .inl (K.1, 124, .inl gA)), (yB, .inl (K.1, 124, .inl gB)), (yN, .inl (K.1, 124, .inl gN)), (yK, .inl (K.1, 124, .inl gM)), (yL, .inl (K.2.1, 62, .inl gL))]) (wN := [(x, .inr (1, [.long seed, .ref xM, .ref xO, .int (nI cnt), .ref xS, .ref xA, .ref xB, .ref xN, .ref xK, .ref xL, .int vb, .int vs, .ref xT, .int tl])), (xM, .inr (0, [.long w, .int sk, .int pb, .int nu, .int so, .int fa, .int fb, .int ne, .int mk])), (xO, .inr (0, [.long w2, .int sk2, .int pb2, .int nu2, .int so2, .int fa2, .int fb2, .int ne2, .int mk2])), (xS, .inl (K.1, 62, .inl fS)), (xA, .inl (K.1, 62, .inl fA)), (xB, .inl (K.1, 62, .inl fB)), (xN, .inl (K.1, 62, .inl fN)), (xK, .inl (K.1, 62, .inl fM)), (xL, .inl (K.2.1, 62, .inl fL)), (xT, .inl (K.2.2, 992, .inl fT)), (y, .inr (2, [.int cd, .long seed, .long mw, .int (nI cnt), .int vb, .int pl, .int vs, .ref yS, .ref yA, .ref yB, .ref yN, .ref yK, .ref yL, .int wa, .int fo, .int se])), (yS, .inl (K.1, 124, .inl gS)), (yA, .inl (K.1, 124, .inl gA)), (yB, .inl (K.1, 124, .inl gB)), (yN, .inl (K.1, 124, .inl gN)), (yK, .inl (K.1, 124, .inl gM)), (yL, .inl (K.2.1, 62, .inl gL))]) (va_runV (As := [.long (lw_ot (xs (i + 1)) (xs (i + 2))), .int (xs (i + 3)), .int (xs (i + 4))]) (rest := []) ⟨hx, hb, hml, hown, hw⟩ (c_B_sameN l G D K H.size x seed xM xO cnt xS xA xB xN xK xL vb vs xT tl (lw_ot (xs (i + 1)) (xs (i + 2))) (xs (i + 3)) (xs (i + 4)) hcan) (cwV 3 hw (cx_gV k_286 k_287 k_288 k_1 k_289) rfl rfl rfl (by decide +kernel) ⟨Nat.le_of_ble_eq_true rfl, Nat.le_of_ble_eq_true rfl⟩) (cx_preV (q0 := 0) (ci := 1) hK hP hD hS hA hE rfl rfl [0] rfl rfl (by decide)) rfl rfl hl.1 rfl (lv_room (Nat.le_of_ble_eq_true rfl)) d_L_law_309 ⟨Nat.le_of_ble_eq_true rfl, Nat.le_of_ble_eq_true rfl⟩) hP hD hS hA [0] [1, 2, 3, 4, 5, 6, 7, 8, 9, 10, 11, 12, 13, 14, 15, 16] rfl rfl (by decide) (by decide) [16, 0, 1, 2, 3, 4, 5, 6, 7, 8, 9, 10, 11, 12, 13, 14, 15] rfl rfl (by decide) (fun H locs hP hD hS => ?_)
      refine lv_aload_n hx hb d_L_law_312 rfl (lv_at hl 2 rfl) ?_
      refine lv_aload_n hx hb d_L_law_313 rfl (lv_at hl 3 rfl) ?_
      refine lv_iload_n hx hb d_L_law_314 rfl (lv_at hl 0 rfl) ?_
      refine lv_iconst (v := 1) hx hb d_L_law_315 (by decide) ?_
      refine lv_iadd hx hb d_L_law_316 ?_
      refine cx_ti (y := nI (i + 1)) (by exact nI_add i 1) ?_
      refine va_sld hx hb hX hbl hbA hS (vp_in_nI (n := i + 1) (by omega) (by omega)) d_L_law_317 ?_
      refine cx_ti (y := xs (i + 1)) (by rw [nI_clamp (by omega)]) ?_
      refine lv_i2l (v := (xs (i + 1)).toInt64) hx hb d_L_law_318 (rfl) ?_
      refine lv_bipush (v := 32) hx hb d_L_law_319 (by decide) ?_
      refine lv_lshl (v := ((xs (i + 1)).toInt64) <<< ((32 : Int32).toInt64 &&& 63)) hx hb d_L_law_321 (rfl) ?_
      refine lv_aload_n hx hb d_L_law_322 rfl (lv_at hl 3 rfl) ?_
      refine lv_iload_n hx hb d_L_law_323 rfl (lv_at hl 0 rfl) ?_
      refine lv_iconst (v := 2) hx hb d_L_law_324 (by decide) ?_
      refine lv_iadd hx hb d_L_law_325 ?_
      refine cx_ti (y := nI (i + 2)) (by exact nI_add i 2) ?_
      refine va_sld hx hb hX hbl hbA hS (vp_in_nI (n := i + 2) (by omega) (by omega)) d_L_law_326 ?_
      refine cx_ti (y := xs (i + 2)) (by rw [nI_clamp (by omega)]) ?_
      refine lv_i2l (v := (xs (i + 2)).toInt64) hx hb d_L_law_327 (rfl) ?_
      refine lv_ldc2 (v := 4294967295) hx hb hown (hw _ k_434) d_L_law_328 ?_
      refine lv_land hx hb d_L_law_331 ?_
      refine lv_lor hx hb d_L_law_332 ?_
      refine cx_tl (y := lw_ot (xs (i + 1)) (xs (i + 2))) (rfl) ?_
      refine lv_aload_n hx hb d_L_law_333 rfl (lv_at hl 3 rfl) ?_
      refine lv_iload_n hx hb d_L_law_334 rfl (lv_at hl 0 rfl) ?_
      refine lv_iconst (v := 3) hx hb d_L_law_335 (by decide) ?_
      refine lv_iadd hx hb d_L_law_336 ?_
      refine cx_ti (y := nI (i + 3)) (by exact nI_add i 3) ?_
      refine va_sld hx hb hX hbl hbA hS (vp_in_nI (n := i + 3) (by omega) (by omega)) d_L_law_337 ?_
      refine cx_ti (y := xs (i + 3)) (by rw [nI_clamp (by omega)]) ?_
      refine lv_aload_n hx hb d_L_law_338 rfl (lv_at hl 3 rfl) ?_
      refine lv_iload_n hx hb d_L_law_339 rfl (lv_at hl 0 rfl) ?_
      refine lv_iconst (v := 4) hx hb d_L_law_340 (by decide) ?_
      refine lv_iadd hx hb d_L_law_341 ?_
      refine cx_ti (y := nI (i + 4)) (by exact nI_add i 4) ?_
      refine va_sld hx hb hX hbl hbA hS (vp_in_nI (n := i + 4) (by omega) (by omega)) d_L_law_342 ?_
      refine cx_ti (y := xs (i + 4)) (by rw [nI_clamp (by omega)]) ?_
      refine cx_ci (wr := [(x, .inr (1, [.long seed, .ref xM, .ref xO, .int (nI cnt), .ref xS, .ref xA, .ref xB, .ref xN, .ref xK, .ref xL, .int vb, .int vs, .ref xT, .int tl])), (xM, .inr (0, [.long w, .int sk, .int pb, .int nu, .int so, .int fa, .int fb, .int ne, .int mk])), (xO, .inr (0, [.long w2, .int sk2, .int pb2, .int nu2, .int so2, .int fa2, .int fb2, .int ne2, .int mk2])), (xS, .inl (K.1, 62, .inl fS)), (xA, .inl (K.1, 62, .inl fA)), (xB, .inl (K.1, 62, .inl fB)), (xN, .inl (K.1, 62, .inl fN)), (xK, .inl (K.1, 62, .inl fM)), (xL, .inl (K.2.1, 62, .inl fL)), (xT, .inl (K.2.2, 992, .inl fT)), (yS, .inl (K.1, 124, .inl gS)), (yA, .inl (K.1, 124, .inl gA)), (yB, .inl (K.1, 124, .inl gB)), (yN, .inl (K.1, 124, .inl gN)), (yK, .inl (K.1, 124, .inl gM)), (yL, .inl (K.2.1, 62, .inl gL))]) (wN := [(x, .inr (1, [.long seed, .ref xM, .ref xO, .int (nI cnt), .ref xS, .ref xA, .ref xB, .ref xN, .ref xK, .ref xL, .int vb, .int vs, .ref xT, .int tl])), (xM, .inr (0, [.long w, .int sk, .int pb, .int nu, .int so, .int fa, .int fb, .int ne, .int mk])), (xO, .inr (0, [.long w2, .int sk2, .int pb2, .int nu2, .int so2, .int fa2, .int fb2, .int ne2, .int mk2])), (xS, .inl (K.1, 62, .inl fS)), (xA, .inl (K.1, 62, .inl fA)), (xB, .inl (K.1, 62, .inl fB)), (xN, .inl (K.1, 62, .inl fN)), (xK, .inl (K.1, 62, .inl fM)), (xL, .inl (K.2.1, 62, .inl fL)), (xT, .inl (K.2.2, 992, .inl fT)), (y, .inr (2, [.int 0, .long seed, .long mw, .int (nI cnt), .int vb, .int pl, .int vs, .ref yS, .ref yA, .ref yB, .ref yN, .ref yK, .ref yL, .int wa, .int fo, .int se])), (yS, .inl (K.1, 124, .inl gS)), (yA, .inl (K.1, 124, .inl gA)), (yB, .inl (K.1, 124, .inl gB)), (yN, .inl (K.1, 124, .inl gN)), (yK, .inl (K.1, 124, .inl gM)), (yL, .inl (K.2.1, 62, .inl gL))]) (va_runV (As := [.long (lw_ot (xs (i + 1)) (xs (i + 2))), .int (xs (i + 3)), .int (xs (i + 4))]) (rest := [.int 0]) ⟨hx, hb, hml, hown, hw⟩ (c_M_sameN l G D K H.size y cd seed mw cnt vb pl vs yS yA yB yN yK yL wa fo se (lw_ot (xs (i + 1)) (xs (i + 2))) (xs (i + 3)) (xs (i + 4)) hcan) (cwV 3 hw (cx_gV k_377 k_378 k_379 k_3 k_380) rfl rfl rfl (by decide +kernel) ⟨Nat.le_of_ble_eq_true rfl, Nat.le_of_ble_eq_true rfl⟩) (cx_preV (q0 := 10) (ci := 2) hK hP hD hS hA hE rfl rfl [10] rfl rfl (by decide)) rfl rfl hl.1 rfl (lv_room (Nat.le_of_ble_eq_true rfl)) d_L_law_343 ⟨Nat.le_of_ble_eq_true rfl, Nat.le_of_ble_eq_true rfl⟩) hP hD hS hA [10] [0, 1, 2, 3, 4, 5, 6, 7, 8, 9, 11, 12, 13, 14, 15, 16] rfl rfl (by decide) (by decide) [0, 1, 2, 3, 4, 5, 6, 7, 8, 9, 16, 10, 11, 12, 13, 14, 15] rfl rfl (by decide) (fun H locs hP hD hS => ?_)
      refine lv_icmp_eq (tgt := 351) hx hb d_L_law_346 (by decide) (fun r_346 => ?_) (fun r_346 => ?_)
      · have c_346 := r_346
        refine lv_iinc (v := nI (i + 5)) (lv' := [(3, .int (nI (i + 5))), (1, .ref x), (2, .ref y), (0, .ref b)]) hx hb d_L_law_351 hl (k := 0) rfl (by exact nI_add i 5) (by decide) rfl (fun ls hl => ?_)
        refine lv_goto (tgt := 30) hx hb d_L_law_354 (by decide) ?_
        exact ih_30 (i + 5) _ _ _ ⟨by omega, ⟨cnt, vb, vs, tl, w, sk, pb, nu, so, fa, fb, ne, mk, w2, sk2, pb2, nu2, so2, fa2, fb2, ne2, mk2, fS, fA, fB, fN, fM, fL, fT, 0, mw, pl, wa, fo, se, gS, gA, gB, gN, gM, gL, hR, hP, hD⟩, hS, lv_sub hl [0, 1, 2, 3] rfl⟩ (by omega)
      · have c_346 := r_346
        exact absurd (rfl) r_346
    · obtain ⟨kk, zz, hkk, hzz, e1, e2⟩ := bd_can_of hcan
      refine lv_aload_n hx hb d_L_law_278 rfl (lv_at hl 1 rfl) ?_
      refine lv_aload_n hx hb d_L_law_279 rfl (lv_at hl 3 rfl) ?_
      refine lv_iload_n hx hb d_L_law_280 rfl (lv_at hl 0 rfl) ?_
      refine lv_iconst (v := 1) hx hb d_L_law_281 (by decide) ?_
      refine lv_iadd hx hb d_L_law_282 ?_
      refine cx_ti (y := nI (i + 1)) (by exact nI_add i 1) ?_
      refine va_sld hx hb hX hbl hbA hS (vp_in_nI (n := i + 1) (by omega) (by omega)) d_L_law_283 ?_
      refine cx_ti (y := xs (i + 1)) (by rw [nI_clamp (by omega)]) ?_
      refine lv_i2l (v := (xs (i + 1)).toInt64) hx hb d_L_law_284 (rfl) ?_
      refine lv_bipush (v := 32) hx hb d_L_law_285 (by decide) ?_
      refine lv_lshl (v := ((xs (i + 1)).toInt64) <<< ((32 : Int32).toInt64 &&& 63)) hx hb d_L_law_287 (rfl) ?_
      refine lv_aload_n hx hb d_L_law_288 rfl (lv_at hl 3 rfl) ?_
      refine lv_iload_n hx hb d_L_law_289 rfl (lv_at hl 0 rfl) ?_
      refine lv_iconst (v := 2) hx hb d_L_law_290 (by decide) ?_
      refine lv_iadd hx hb d_L_law_291 ?_
      refine cx_ti (y := nI (i + 2)) (by exact nI_add i 2) ?_
      refine va_sld hx hb hX hbl hbA hS (vp_in_nI (n := i + 2) (by omega) (by omega)) d_L_law_292 ?_
      refine cx_ti (y := xs (i + 2)) (by rw [nI_clamp (by omega)]) ?_
      refine lv_i2l (v := (xs (i + 2)).toInt64) hx hb d_L_law_293 (rfl) ?_
      refine lv_ldc2 (v := 4294967295) hx hb hown (hw _ k_434) d_L_law_294 ?_
      refine lv_land hx hb d_L_law_297 ?_
      refine lv_lor hx hb d_L_law_298 ?_
      refine cx_tl (y := lw_ot (xs (i + 1)) (xs (i + 2))) (rfl) ?_
      refine lv_aload_n hx hb d_L_law_299 rfl (lv_at hl 3 rfl) ?_
      refine lv_iload_n hx hb d_L_law_300 rfl (lv_at hl 0 rfl) ?_
      refine lv_iconst (v := 3) hx hb d_L_law_301 (by decide) ?_
      refine lv_iadd hx hb d_L_law_302 ?_
      refine cx_ti (y := nI (i + 3)) (by exact nI_add i 3) ?_
      refine va_sld hx hb hX hbl hbA hS (vp_in_nI (n := i + 3) (by omega) (by omega)) d_L_law_303 ?_
      refine cx_ti (y := nI kk) (by rw [nI_clamp (by omega)]; exact e1) ?_
      refine lv_aload_n hx hb d_L_law_304 rfl (lv_at hl 3 rfl) ?_
      refine lv_iload_n hx hb d_L_law_305 rfl (lv_at hl 0 rfl) ?_
      refine lv_iconst (v := 4) hx hb d_L_law_306 (by decide) ?_
      refine lv_iadd hx hb d_L_law_307 ?_
      refine cx_ti (y := nI (i + 4)) (by exact nI_add i 4) ?_
      refine va_sld hx hb hX hbl hbA hS (vp_in_nI (n := i + 4) (by omega) (by omega)) d_L_law_308 ?_
      refine cx_ti (y := nI zz) (by rw [nI_clamp (by omega)]; exact e2) ?_
      refine cx_cx (wr := [(xS, .inl (K.1, 62, .inl fS)), (xA, .inl (K.1, 62, .inl fA)), (xB, .inl (K.1, 62, .inl fB)), (xN, .inl (K.1, 62, .inl fN)), (xK, .inl (K.1, 62, .inl fM)), (xL, .inl (K.2.1, 62, .inl fL)), (xT, .inl (K.2.2, 992, .inl fT)), (y, .inr (2, [.int cd, .long seed, .long mw, .int (nI cnt), .int vb, .int pl, .int vs, .ref yS, .ref yA, .ref yB, .ref yN, .ref yK, .ref yL, .int wa, .int fo, .int se])), (yS, .inl (K.1, 124, .inl gS)), (yA, .inl (K.1, 124, .inl gA)), (yB, .inl (K.1, 124, .inl gB)), (yN, .inl (K.1, 124, .inl gN)), (yK, .inl (K.1, 124, .inl gM)), (yL, .inl (K.2.1, 62, .inl gL))]) (wN := fun u1 u2 => [(x, .inr (1, [.long seed, .ref xM, .ref xO, .int (nI cnt), .ref xS, .ref xA, .ref xB, .ref xN, .ref xK, .ref xL, .int vb, .int vs, .ref xT, .int tl])), (xM, .inr (0, [.long (u1 0), .int (u2 0), .int (u2 1), .int (u2 2), .int (u2 3), .int (u2 4), .int (u2 5), .int (u2 6), .int (u2 7)])), (xO, .inr (0, [.long (u1 1), .int (u2 8), .int (u2 9), .int (u2 10), .int (u2 11), .int (u2 12), .int (u2 13), .int (u2 14), .int (u2 15)])), (xS, .inl (K.1, 62, .inl fS)), (xA, .inl (K.1, 62, .inl fA)), (xB, .inl (K.1, 62, .inl fB)), (xN, .inl (K.1, 62, .inl fN)), (xK, .inl (K.1, 62, .inl fM)), (xL, .inl (K.2.1, 62, .inl fL)), (xT, .inl (K.2.2, 992, .inl fT)), (y, .inr (2, [.int cd, .long seed, .long mw, .int (nI cnt), .int vb, .int pl, .int vs, .ref yS, .ref yA, .ref yB, .ref yN, .ref yK, .ref yL, .int wa, .int fo, .int se])), (yS, .inl (K.1, 124, .inl gS)), (yA, .inl (K.1, 124, .inl gA)), (yB, .inl (K.1, 124, .inl gB)), (yN, .inl (K.1, 124, .inl gN)), (yK, .inl (K.1, 124, .inl gM)), (yL, .inl (K.2.1, 62, .inl gL))]) (va_runV (As := [.long (lw_ot (xs (i + 1)) (xs (i + 2))), .int (nI kk), .int (nI zz)]) (rest := []) ⟨hx, hb, hml, hown, hw⟩ (c_B_same l G D K H.size x seed xM xO cnt xS xA xB xN xK xL vb vs xT tl w sk pb nu so fa fb ne mk w2 sk2 pb2 nu2 so2 fa2 fb2 ne2 mk2 (lw_ot (xs (i + 1)) (xs (i + 2))) kk zz (by omega) (by omega)) (cwV 3 hw (cx_gV k_286 k_287 k_288 k_1 k_289) rfl rfl rfl (by decide +kernel) ⟨Nat.le_of_ble_eq_true rfl, Nat.le_of_ble_eq_true rfl⟩) (cx_preV (q0 := 0) (ci := 1) hK hP hD hS hA hE rfl rfl [0, 1, 2] rfl rfl (by decide)) rfl rfl hl.1 rfl (lv_room (Nat.le_of_ble_eq_true rfl)) d_L_law_309 ⟨Nat.le_of_ble_eq_true rfl, Nat.le_of_ble_eq_true rfl⟩) hP hD hS hA [0, 1, 2] [3, 4, 5, 6, 7, 8, 9, 10, 11, 12, 13, 14, 15, 16] rfl rfl (by decide) (by decide) [14, 15, 16, 0, 1, 2, 3, 4, 5, 6, 7, 8, 9, 10, 11, 12, 13] (fun _ _ => rfl) (fun _ _ => rfl) (by decide) (fun u1 u2 H locs hP hD hS => ?_)
      refine lv_aload_n hx hb d_L_law_312 rfl (lv_at hl 2 rfl) ?_
      refine lv_aload_n hx hb d_L_law_313 rfl (lv_at hl 3 rfl) ?_
      refine lv_iload_n hx hb d_L_law_314 rfl (lv_at hl 0 rfl) ?_
      refine lv_iconst (v := 1) hx hb d_L_law_315 (by decide) ?_
      refine lv_iadd hx hb d_L_law_316 ?_
      refine cx_ti (y := nI (i + 1)) (by exact nI_add i 1) ?_
      refine va_sld hx hb hX hbl hbA hS (vp_in_nI (n := i + 1) (by omega) (by omega)) d_L_law_317 ?_
      refine cx_ti (y := xs (i + 1)) (by rw [nI_clamp (by omega)]) ?_
      refine lv_i2l (v := (xs (i + 1)).toInt64) hx hb d_L_law_318 (rfl) ?_
      refine lv_bipush (v := 32) hx hb d_L_law_319 (by decide) ?_
      refine lv_lshl (v := ((xs (i + 1)).toInt64) <<< ((32 : Int32).toInt64 &&& 63)) hx hb d_L_law_321 (rfl) ?_
      refine lv_aload_n hx hb d_L_law_322 rfl (lv_at hl 3 rfl) ?_
      refine lv_iload_n hx hb d_L_law_323 rfl (lv_at hl 0 rfl) ?_
      refine lv_iconst (v := 2) hx hb d_L_law_324 (by decide) ?_
      refine lv_iadd hx hb d_L_law_325 ?_
      refine cx_ti (y := nI (i + 2)) (by exact nI_add i 2) ?_
      refine va_sld hx hb hX hbl hbA hS (vp_in_nI (n := i + 2) (by omega) (by omega)) d_L_law_326 ?_
      refine cx_ti (y := xs (i + 2)) (by rw [nI_clamp (by omega)]) ?_
      refine lv_i2l (v := (xs (i + 2)).toInt64) hx hb d_L_law_327 (rfl) ?_
      refine lv_ldc2 (v := 4294967295) hx hb hown (hw _ k_434) d_L_law_328 ?_
      refine lv_land hx hb d_L_law_331 ?_
      refine lv_lor hx hb d_L_law_332 ?_
      refine cx_tl (y := lw_ot (xs (i + 1)) (xs (i + 2))) (rfl) ?_
      refine lv_aload_n hx hb d_L_law_333 rfl (lv_at hl 3 rfl) ?_
      refine lv_iload_n hx hb d_L_law_334 rfl (lv_at hl 0 rfl) ?_
      refine lv_iconst (v := 3) hx hb d_L_law_335 (by decide) ?_
      refine lv_iadd hx hb d_L_law_336 ?_
      refine cx_ti (y := nI (i + 3)) (by exact nI_add i 3) ?_
      refine va_sld hx hb hX hbl hbA hS (vp_in_nI (n := i + 3) (by omega) (by omega)) d_L_law_337 ?_
      refine cx_ti (y := nI kk) (by rw [nI_clamp (by omega)]; exact e1) ?_
      refine lv_aload_n hx hb d_L_law_338 rfl (lv_at hl 3 rfl) ?_
      refine lv_iload_n hx hb d_L_law_339 rfl (lv_at hl 0 rfl) ?_
      refine lv_iconst (v := 4) hx hb d_L_law_340 (by decide) ?_
      refine lv_iadd hx hb d_L_law_341 ?_
      refine cx_ti (y := nI (i + 4)) (by exact nI_add i 4) ?_
      refine va_sld hx hb hX hbl hbA hS (vp_in_nI (n := i + 4) (by omega) (by omega)) d_L_law_342 ?_
      refine cx_ti (y := nI zz) (by rw [nI_clamp (by omega)]; exact e2) ?_
      refine cx_ci (wr := [(x, .inr (1, [.long seed, .ref xM, .ref xO, .int (nI cnt), .ref xS, .ref xA, .ref xB, .ref xN, .ref xK, .ref xL, .int vb, .int vs, .ref xT, .int tl])), (xM, .inr (0, [.long (u1 0), .int (u2 0), .int (u2 1), .int (u2 2), .int (u2 3), .int (u2 4), .int (u2 5), .int (u2 6), .int (u2 7)])), (xO, .inr (0, [.long (u1 1), .int (u2 8), .int (u2 9), .int (u2 10), .int (u2 11), .int (u2 12), .int (u2 13), .int (u2 14), .int (u2 15)])), (xS, .inl (K.1, 62, .inl fS)), (xA, .inl (K.1, 62, .inl fA)), (xB, .inl (K.1, 62, .inl fB)), (xN, .inl (K.1, 62, .inl fN)), (xK, .inl (K.1, 62, .inl fM)), (xL, .inl (K.2.1, 62, .inl fL)), (xT, .inl (K.2.2, 992, .inl fT)), (yL, .inl (K.2.1, 62, .inl gL))]) (wN := [(x, .inr (1, [.long seed, .ref xM, .ref xO, .int (nI cnt), .ref xS, .ref xA, .ref xB, .ref xN, .ref xK, .ref xL, .int vb, .int vs, .ref xT, .int tl])), (xM, .inr (0, [.long (u1 0), .int (u2 0), .int (u2 1), .int (u2 2), .int (u2 3), .int (u2 4), .int (u2 5), .int (u2 6), .int (u2 7)])), (xO, .inr (0, [.long (u1 1), .int (u2 8), .int (u2 9), .int (u2 10), .int (u2 11), .int (u2 12), .int (u2 13), .int (u2 14), .int (u2 15)])), (xS, .inl (K.1, 62, .inl fS)), (xA, .inl (K.1, 62, .inl fA)), (xB, .inl (K.1, 62, .inl fB)), (xN, .inl (K.1, 62, .inl fN)), (xK, .inl (K.1, 62, .inl fM)), (xL, .inl (K.2.1, 62, .inl fL)), (xT, .inl (K.2.2, 992, .inl fT)), (y, .inr (2, [.int 0, .long seed, .long (bd_gW (lw_ot (xs (i + 1)) (xs (i + 2))) kk zz (zz + 2)), .int (nI cnt), .int vb, .int (bd_pl seed (nI kk) (nI zz)), .int vs, .ref yS, .ref yA, .ref yB, .ref yN, .ref yK, .ref yL, .int wa, .int fo, .int se])), (yS, .inl (K.1, 124, .inl (bd_fio (bd_gS (lw_ot (xs (i + 1)) (xs (i + 2))) kk zz) 62 (zz + 2) gS))), (yA, .inl (K.1, 124, .inl (bd_fio (bd_gA (lw_ot (xs (i + 1)) (xs (i + 2))) kk zz) 62 (zz + 2) gA))), (yB, .inl (K.1, 124, .inl (bd_fio (bd_gB (lw_ot (xs (i + 1)) (xs (i + 2))) kk zz) 62 (zz + 2) gB))), (yN, .inl (K.1, 124, .inl (bd_fio (bd_gN (lw_ot (xs (i + 1)) (xs (i + 2))) kk zz) 62 (zz + 2) gN))), (yK, .inl (K.1, 124, .inl (bd_fio (bd_gM (lw_ot (xs (i + 1)) (xs (i + 2))) kk zz) 62 (zz + 2) gM))), (yL, .inl (K.2.1, 62, .inl gL))]) (va_runV (As := [.long (lw_ot (xs (i + 1)) (xs (i + 2))), .int (nI kk), .int (nI zz)]) (rest := [.int (bd_sa seed (lw_ot (xs (i + 1)) (xs (i + 2))) kk zz (zz + 2) 0)]) ⟨hx, hb, hml, hown, hw⟩ (c_M_same l G D K H.size y cd seed mw cnt vb pl vs yS yA yB yN yK yL wa fo se gS gA gB gN gM (lw_ot (xs (i + 1)) (xs (i + 2))) kk zz (by omega) (by omega)) (cwV 3 hw (cx_gV k_377 k_378 k_379 k_3 k_380) rfl rfl rfl (by decide +kernel) ⟨Nat.le_of_ble_eq_true rfl, Nat.le_of_ble_eq_true rfl⟩) (cx_preV (q0 := 10) (ci := 2) hK hP hD hS hA hE rfl rfl [10, 11, 12, 13, 14, 15] rfl rfl (by decide)) rfl rfl hl.1 rfl (lv_room (Nat.le_of_ble_eq_true rfl)) d_L_law_343 ⟨Nat.le_of_ble_eq_true rfl, Nat.le_of_ble_eq_true rfl⟩) hP hD hS hA [10, 11, 12, 13, 14, 15] [0, 1, 2, 3, 4, 5, 6, 7, 8, 9, 16] rfl rfl (by decide) (by decide) [0, 1, 2, 3, 4, 5, 6, 7, 8, 9, 11, 12, 13, 14, 15, 16, 10] rfl rfl (by decide) (fun H locs hP hD hS => ?_)
      refine lv_icmp_eq (tgt := 351) hx hb d_L_law_346 (by decide) (fun r_346 => ?_) (fun r_346 => ?_)
      · have c_346 := r_346
        refine lv_iinc (v := nI (i + 5)) (lv' := [(3, .int (nI (i + 5))), (1, .ref x), (2, .ref y), (0, .ref b)]) hx hb d_L_law_351 hl (k := 0) rfl (by exact nI_add i 5) (by decide) rfl (fun ls hl => ?_)
        refine lv_goto (tgt := 30) hx hb d_L_law_354 (by decide) ?_
        exact ih_30 (i + 5) _ _ _ ⟨by omega, ⟨cnt, vb, vs, tl, (u1 0), (u2 0), (u2 1), (u2 2), (u2 3), (u2 4), (u2 5), (u2 6), (u2 7), (u1 1), (u2 8), (u2 9), (u2 10), (u2 11), (u2 12), (u2 13), (u2 14), (u2 15), fS, fA, fB, fN, fM, fL, fT, 0, (bd_gW (lw_ot (xs (i + 1)) (xs (i + 2))) kk zz (zz + 2)), (bd_pl seed (nI kk) (nI zz)), wa, fo, se, (bd_fio (bd_gS (lw_ot (xs (i + 1)) (xs (i + 2))) kk zz) 62 (zz + 2) gS), (bd_fio (bd_gA (lw_ot (xs (i + 1)) (xs (i + 2))) kk zz) 62 (zz + 2) gA), (bd_fio (bd_gB (lw_ot (xs (i + 1)) (xs (i + 2))) kk zz) 62 (zz + 2) gB), (bd_fio (bd_gN (lw_ot (xs (i + 1)) (xs (i + 2))) kk zz) 62 (zz + 2) gN), (bd_fio (bd_gM (lw_ot (xs (i + 1)) (xs (i + 2))) kk zz) 62 (zz + 2) gM), gL, ⟨hcnt, hvs, bd_fio_c62 hcnt eS, bd_fio_c62 hcnt eA, bd_fio_c62 hcnt eB, bd_fio_c62 hcnt eN, bd_fio_c62 hcnt eM, eL, hok, htl⟩, hP, hD⟩, hS, lv_sub hl [0, 1, 2, 3] rfl⟩ (by omega)
      · have c_346 := r_346
        exact absurd (rfl) r_346
