/-- left(i): n parts are still to be looked at, from j on; b are counted -/
def bd_lg (f : Nat → Int32) (i : Int32) : Nat → Nat → Int32 → Int32
  | 0, _, _ => -1
  | n + 1, j, b => if f j = 0 then bd_lg f i n (j + 1) b else if b = i then nI j else bd_lg f i n (j + 1) (b + 1)
def bd_left (f : Nat → Int32) (cnt : Nat) (i : Int32) : Int32 := if i < 0 then -1 else bd_lg f i cnt 0 0
def bd_mi (c : Nat → Int32) : Nat → Nat → Int32
  | 0, _ => 1
  | n + 1, j => if c j = 0 then bd_mi c n (j + 1) else 0
theorem bd_mi_01 (c : Nat → Int32) : ∀ n j, bd_mi c n j = 0 ∨ bd_mi c n j = 1 := by
  intro n
  induction n with
  | zero => intro j; exact Or.inr rfl
  | succ n ih => intro j; rw [bd_mi]; split; exact ih _; exact Or.inl rfl
/-- from the last of k parts to the first each that can go goes -/
def bd_lo (c : (Nat → Int32) → Nat → Int32) : Nat → (Nat → Int32) → Int32 → (Nat → Int32) × Int32
  | 0, f, w => (f, w)
  | k + 1, f, w => if c f k = 0 then bd_lo c k f w else bd_lo c k (upd f k 0) 1
theorem bd_lo_01 (c : (Nat → Int32) → Nat → Int32) : ∀ k f w, (w = 0 ∨ w = 1) → (bd_lo c k f w).2 = 0 ∨ (bd_lo c k f w).2 = 1 := by
  intro k
  induction k with
  | zero => intro f w h; exact h
  | succ k ih => intro f w h; rw [bd_lo]; split; exact ih _ _ h; exact ih _ _ (Or.inr rfl)
def bd_la (r : (Nat → Int32) → (Nat → Int32) × Int32) : Nat → (Nat → Int32) → Int32 → (Nat → Int32)
  | 0, f, _ => f
  | n + 1, f, a => if a = 0 then f else bd_la r n (r f).1 (r f).2
def bd_sh (fL fN fM : Nat → Int32) (vb vs : Int32) (cnt : Nat) : Nat → Int32 := if bd_ho vb vs (bd_ml fL fM cnt) = 0 then bd_all cnt fL else bd_la (fun f => bd_lo (fun f k => bd_cg f fN fM vb vs cnt k) cnt f 0) 63 fL 1
theorem bd_nar0 : vp_nar .boolean 0 = 0 := rfl
set_option maxHeartbeats 4000000 in
set_option maxRecDepth 100000 in
theorem c_B_canGo (l : Launch) (G : cx_G) (D : va_G) (K : cx_KT) (sz : Nat) (h0 : Nat) (seed : Int64) (hM : Nat) (hO : Nat) (cnt : Nat) (aS : Nat) (aA : Nat) (aB : Nat) (aN : Nat) (aM : Nat) (aL : Nat) (vb : Int32) (vs : Int32) (aT : Nat) (tl : Int32) (fL : Nat → Int32) (fN : Nat → Int32) (fM : Nat → Int32) (k : Nat) (hcnt : cnt ≤ 62) (hk : k < cnt) : Met l y_B_canGo w_B_canGo ({ frames := 1, cells := 0, slots := 0, locals := 22 }) (cx_Pc G D (cx_ty K) [(h0, .inr (1, [.long seed, .ref hM, .ref hO, .int (nI cnt), .ref aS, .ref aA, .ref aB, .ref aN, .ref aM, .ref aL, .int vb, .int vs, .ref aT, .int tl])), (aL, .inl (K.2.1, 62, .inl fL)), (aN, .inl (K.1, 62, .inl fN)), (aM, .inl (K.1, 62, .inl fM))] sz [.ref h0, .int (nI k)]) (cx_Qi (bd_cg fL fN fM vb vs cnt k) D (cx_ty K) [(h0, .inr (1, [.long seed, .ref hM, .ref hO, .int (nI cnt), .ref aS, .ref aA, .ref aB, .ref aN, .ref aM, .ref aL, .int vb, .int vs, .ref aT, .int tl])), (aL, .inl (K.2.1, 62, .inl fL)), (aN, .inl (K.1, 62, .inl fN)), (aM, .inl (K.1, 62, .inl fM))] (va_A [(h0, .inr (1, [.long seed, .ref hM, .ref hO, .int (nI cnt), .ref aS, .ref aA, .ref aB, .ref aN, .ref aM, .ref aL, .int vb, .int vs, .ref aT, .int tl])), (aL, .inl (K.2.1, 62, .inl fL)), (aN, .inl (K.1, 62, .inl fN)), (aM, .inl (K.1, 62, .inl fM))] sz)) 0 0 (va_A [(h0, .inr (1, [.long seed, .ref hM, .ref hO, .int (nI cnt), .ref aS, .ref aA, .ref aB, .ref aN, .ref aM, .ref aL, .int vb, .int vs, .ref aT, .int tl])), (aL, .inl (K.2.1, 62, .inl fL)), (aN, .inl (K.1, 62, .inl fN)), (aM, .inl (K.1, 62, .inl fM))] sz) := by
  refine Met.ofW (cc := prog_1_method_17_code) (maxL := 4) (ret := (some .boolean)) (by decide) rfl ?_
  intro p e s m args below meth c s₁ B hml hv
  obtain ⟨rfl, hsz, hP, hK, hD0, hE⟩ := hv
  have hx := B.exec
  have hb := B.bytes
  have hr := B.returns
  have hts := atoms_spec (ws := w_B_canGo) B.pre
  have hw : ∀ w ∈ cw, w.before _ s = true := fun w h => hts w (List.mem_cons_of_mem _ h)
  have hown : s.vm.findClass "BuildDrawer" = some m.cls := findClass_of_methodNamed B.named
  have hlocks := B.notSynchronized
  subst hsz
  have hD := hD0.self (sz := s.heap.size)
  generalize hAe : va_A [(h0, .inr (1, [.long seed, .ref hM, .ref hO, .int (nI cnt), .ref aS, .ref aA, .ref aB, .ref aN, .ref aM, .ref aL, .int vb, .int vs, .ref aT, .int tl])), (aL, .inl (K.2.1, 62, .inl fL)), (aN, .inl (K.1, 62, .inl fN)), (aM, .inl (K.1, 62, .inl fM))] s.heap.size = A at hD hE ⊢
  have hA : ∀ q : Nat, s.heap.size ≤ q → A q := fun q h => by rw [← hAe]; exact Or.inr h
  have hS : va_S A s.heap s.heap [] := va_S.rf
  have hl := lv_entry ([.ref h0, .int (nI k)]) (n := 4) (Nat.le_of_ble_eq_true rfl)
  rw [lg_entry_eq]
  generalize (lg_sl ([.ref h0, .int (nI k)]) ++ List.replicate (4 - (lg_sl ([.ref h0, .int (nI k)])).length) Slot.unset).toArray = ls at hl ⊢
  have hl : lv_has ls 4 [(0, .ref h0), (1, .int (nI k))] := hl
  refine lv_aload_n hx hb d_B_canGo_0 rfl (lv_at hl 0 rfl) ?_
  refine lv_iload_n hx hb d_B_canGo_1 rfl (lv_at hl 1 rfl) ?_
  refine cx_ci (wr := [(aL, .inl (K.2.1, 62, .inl fL)), (aN, .inl (K.1, 62, .inl fN)), (aM, .inl (K.1, 62, .inl fM))]) (wN := [(h0, .inr (1, [.long seed, .ref hM, .ref hO, .int (nI cnt), .ref aS, .ref aA, .ref aB, .ref aN, .ref aM, .ref aL, .int vb, .int vs, .ref aT, .int tl])), (aL, .inl (K.2.1, 62, .inl fL)), (aN, .inl (K.1, 62, .inl fN)), (aM, .inl (K.1, 62, .inl fM))]) (va_runV (As := [.int (nI k)]) (rest := []) ⟨hx, hb, hml, hown, hw⟩ (c_B_isPart l G D K s.heap.size h0 seed hM hO cnt aS aA aB aN aM aL vb vs aT tl (nI k)) (cwV 1 hw (cx_gV k_153 k_155 ks_B_isPart k_1 k_156) rfl rfl rfl (by decide +kernel) ⟨Nat.le_of_ble_eq_true rfl, Nat.le_of_ble_eq_true rfl⟩) (cx_preV (q0 := 0) (ci := 1) hK hP hD hS hA hE rfl rfl [0] rfl rfl (by decide)) rfl rfl hl.1 rfl (lv_room (Nat.le_of_ble_eq_true rfl)) d_B_canGo_2 ⟨Nat.le_of_ble_eq_true rfl, Nat.le_of_ble_eq_true rfl⟩) hP hD hS hA [0] [1, 2, 3] rfl rfl (by decide) (by decide) [3, 0, 1, 2] rfl rfl (by decide) (fun H locs hP hD hS => ?_)
  refine cx_ti (y := 1) (bd_ip_in hcnt hk) ?_
  refine lv_if_eq (tgt := 17) hx hb d_B_canGo_5 (by decide) (fun r_5 => ?_) (fun r_5 => ?_)
  · have c_5 := r_5
    exact absurd r_5 (by decide)
  · have c_5 := r_5
    refine lv_aload_n hx hb d_B_canGo_8 rfl (lv_at hl 0 rfl) ?_
    refine va_get (D := D) (ci := 1) (v := .ref aL) (C := "BuildDrawer") (T := TB) (N := 14) hx hb hw inB hown hK hP 0 rfl rfl 9 (by decide) (hw _ k_65) (fun _ h9 => h9) rfl d_B_canGo_9 ?_
    refine lv_iload_n hx hb d_B_canGo_12 rfl (lv_at hl 1 rfl) ?_
    refine va_zald hx hb hK hP 1 1 rfl rfl (vp_in_nI (n := k) (by omega) (by omega)) d_B_canGo_13 ?_
    refine cx_ti (y := fL k) (by rw [nI_clamp (by omega)]) ?_
    refine lv_if_ne (tgt := 19) hx hb d_B_canGo_14 (by decide) (fun r_14 => ?_) (fun r_14 => ?_)
    · have c_14 := r_14
      refine lv_iconst (v := 0) hx hb d_B_canGo_19 (by decide) ?_
      refine lv_istore_n (lv' := [(2, .int 0), (0, .ref h0), (1, .int (nI k))]) hx hb d_B_canGo_20 rfl hl (by decide) rfl (fun ls hl => ?_)
      refine lv_iconst (v := 0) hx hb d_B_canGo_21 (by decide) ?_
      refine lv_istore_n (lv' := [(3, .int 0), (2, .int 0), (0, .ref h0), (1, .int (nI k))]) hx hb d_B_canGo_22 rfl hl (by decide) rfl (fun ls hl => ?_)
      refine cx_loop (pc := 23) (st := []) (fun (j : Nat) H locs ls => (j ≤ cnt) ∧ (bd_nx fL fN k j = false) ∧ va_P D vwCl [(h0, .inr (1, [.long seed, .ref hM, .ref hO, .int (nI cnt), .ref aS, .ref aA, .ref aB, .ref aN, .ref aM, .ref aL, .int vb, .int vs, .ref aT, .int tl])), (aL, .inl (K.2.1, 62, .inl fL)), (aN, .inl (K.1, 62, .inl fN)), (aM, .inl (K.1, 62, .inl fM))] H ∧ va_D A [(h0, .inr (1, [.long seed, .ref hM, .ref hO, .int (nI cnt), .ref aS, .ref aA, .ref aB, .ref aN, .ref aM, .ref aL, .int vb, .int vs, .ref aT, .int tl])), (aL, .inl (K.2.1, 62, .inl fL)), (aN, .inl (K.1, 62, .inl fN)), (aM, .inl (K.1, 62, .inl fM))] ∧ va_S A s.heap H locs ∧ lv_has ls 4 [(3, .int (nI j)), (2, .int (bd_wo fL fM k j)), (1, .int (nI k)), (0, .ref h0)]) (fun (j : Nat) => cnt - j) (fun z H locs ls hI ih_23 => ?_) 0 ⟨Nat.zero_le _, rfl, hP, hD, hS, lv_sub hl [0, 1, 3, 2] rfl⟩
      obtain ⟨j, rfl⟩ : ∃ y, y = z := ⟨_, rfl⟩
      obtain ⟨hj, hnx, hP, hD, hS, hl⟩ := hI
      have hP : va_P D vwCl [(h0, .inr (1, [.long seed, .ref hM, .ref hO, .int (nI cnt), .ref aS, .ref aA, .ref aB, .ref aN, .ref aM, .ref aL, .int vb, .int vs, .ref aT, .int tl])), (aL, .inl (K.2.1, 62, .inl fL)), (aN, .inl (K.1, 62, .inl fN)), (aM, .inl (K.1, 62, .inl fM))] H := hP
      have hD : va_D A [(h0, .inr (1, [.long seed, .ref hM, .ref hO, .int (nI cnt), .ref aS, .ref aA, .ref aB, .ref aN, .ref aM, .ref aL, .int vb, .int vs, .ref aT, .int tl])), (aL, .inl (K.2.1, 62, .inl fL)), (aN, .inl (K.1, 62, .inl fN)), (aM, .inl (K.1, 62, .inl fM))] := hD
      have hl : lv_has ls 4 [(3, .int (nI j)), (2, .int (bd_wo fL fM k j)), (1, .int (nI k)), (0, .ref h0)] := hl
      refine lv_iload_n hx hb d_B_canGo_23 rfl (lv_at hl 0 rfl) ?_
      refine lv_aload_n hx hb d_B_canGo_24 rfl (lv_at hl 3 rfl) ?_
      refine va_get (D := D) (ci := 1) (v := .int (nI cnt)) (C := "BuildDrawer") (T := TB) (N := 14) hx hb hw inB hown hK hP 0 rfl rfl 3 (by decide) (hw _ k_59) (fun _ h9 => h9) rfl d_B_canGo_25 ?_
      refine lv_icmp_ge (tgt := 78) hx hb d_B_canGo_28 (by decide) (fun r_28 => ?_) (fun r_28 => ?_)
      · have c_28 := (nI_leI (a := cnt) (b := j) (by omega) (by omega)).mp r_28
        refine lv_aload_n hx hb d_B_canGo_78 rfl (lv_at hl 3 rfl) ?_
        refine lv_iload_n hx hb d_B_canGo_79 rfl (lv_at hl 1 rfl) ?_
        refine cx_ci (wr := [(aL, .inl (K.2.1, 62, .inl fL)), (aN, .inl (K.1, 62, .inl fN)), (aM, .inl (K.1, 62, .inl fM))]) (wN := [(h0, .inr (1, [.long seed, .ref hM, .ref hO, .int (nI cnt), .ref aS, .ref aA, .ref aB, .ref aN, .ref aM, .ref aL, .int vb, .int vs, .ref aT, .int tl])), (aL, .inl (K.2.1, 62, .inl fL)), (aN, .inl (K.1, 62, .inl fN)), (aM, .inl (K.1, 62, .inl fM))]) (va_runV (As := [.int (bd_wo fL fM k j)]) (rest := []) ⟨hx, hb, hml, hown, hw⟩ (c_B_holdsOf l G D K H.size h0 seed hM hO cnt aS aA aB aN aM aL vb vs aT tl (bd_wo fL fM k j)) (cwV 1 hw (cx_gV k_258 k_260 ks_B_holdsOf k_1 k_261) rfl rfl rfl (by decide +kernel) ⟨Nat.le_of_ble_eq_true rfl, Nat.le_of_ble_eq_true rfl⟩) (cx_preV (q0 := 0) (ci := 1) hK hP hD hS hA hE rfl rfl [0] rfl rfl (by decide)) rfl rfl hl.1 rfl (lv_room (Nat.le_of_ble_eq_true rfl)) d_B_canGo_80 ⟨Nat.le_of_ble_eq_true rfl, Nat.le_of_ble_eq_true rfl⟩) hP hD hS hA [0] [1, 2, 3] rfl rfl (by decide) (by decide) [3, 0, 1, 2] rfl rfl (by decide) (fun H locs hP hD hS => ?_)
        exact cx_zret hx hb hr hlocks hK hP hD hS d_B_canGo_83 ((bd_01 (bd_ho_01 _ _ _)).1) (by rw [bd_cg, if_neg r_14, if_neg (by rw [← show j = cnt by omega, hnx]; decide), show j = cnt by omega]) (rfl)
      · have c_28 := mt (nI_leI (a := cnt) (b := j) (by omega) (by omega)).mpr r_28
        refine lv_iload_n hx hb d_B_canGo_31 rfl (lv_at hl 0 rfl) ?_
        refine lv_bipush (v := 62) hx hb d_B_canGo_32 (by decide) ?_
        refine lv_icmp_ge (tgt := 78) hx hb d_B_canGo_34 (by decide) (fun r_34 => ?_) (fun r_34 => ?_)
        · have c_34 := (nI_leI (a := 62) (b := j) (by omega) (by omega)).mp r_34
          omega
        · have c_34 := mt (nI_leI (a := 62) (b := j) (by omega) (by omega)).mpr r_34
          refine lv_iload_n hx hb d_B_canGo_37 rfl (lv_at hl 0 rfl) ?_
          refine lv_iload_n hx hb d_B_canGo_38 rfl (lv_at hl 2 rfl) ?_
          refine lv_icmp_eq (tgt := 72) hx hb d_B_canGo_39 (by decide) (fun r_39 => ?_) (fun r_39 => ?_)
          · have c_39 := (nI_eq (a := j) (b := k) (by omega) (by omega)).mp r_39
            have e_n := bd_nx_miss hnx (Or.inl c_39)
            have e_i : bd_wo fL fM k (j + 1) = bd_wo fL fM k j := by rw [bd_wo, if_pos c_39]
            rw [← e_i] at hl
            refine lv_iinc (v := nI (j + 1)) (lv' := [(3, .int (nI (j + 1))), (2, .int (bd_wo fL fM k (j + 1))), (1, .int (nI k)), (0, .ref h0)]) hx hb d_B_canGo_72 hl (k := 0) rfl (by exact cx_inc j) (by decide) rfl (fun ls hl => ?_)
            refine lv_goto (tgt := 23) hx hb d_B_canGo_75 (by decide) ?_
            exact ih_23 (j + 1) _ _ _ ⟨(by omega), e_n, hP, hD, hS, lv_sub hl [0, 1, 2, 3] rfl⟩ (by omega)
          · have c_39 := mt (nI_eq (a := j) (b := k) (by omega) (by omega)).mpr r_39
            refine lv_aload_n hx hb d_B_canGo_42 rfl (lv_at hl 3 rfl) ?_
            refine va_get (D := D) (ci := 1) (v := .ref aL) (C := "BuildDrawer") (T := TB) (N := 14) hx hb hw inB hown hK hP 0 rfl rfl 9 (by decide) (hw _ k_65) (fun _ h9 => h9) rfl d_B_canGo_43 ?_
            refine lv_iload_n hx hb d_B_canGo_46 rfl (lv_at hl 0 rfl) ?_
            refine va_zald hx hb hK hP 1 1 rfl rfl (vp_in_nI (n := j) (by omega) (by omega)) d_B_canGo_47 ?_
            refine cx_ti (y := fL j) (by rw [nI_clamp (by omega)]) ?_
            refine lv_if_eq (tgt := 72) hx hb d_B_canGo_48 (by decide) (fun r_48 => ?_) (fun r_48 => ?_)
            · have c_48 := r_48
              have e_n := bd_nx_miss hnx (Or.inr (Or.inl r_48))
              have e_i : bd_wo fL fM k (j + 1) = bd_wo fL fM k j := by rw [bd_wo, if_neg c_39, if_pos r_48]
              rw [← e_i] at hl
              refine lv_iinc (v := nI (j + 1)) (lv' := [(3, .int (nI (j + 1))), (2, .int (bd_wo fL fM k (j + 1))), (1, .int (nI k)), (0, .ref h0)]) hx hb d_B_canGo_72 hl (k := 0) rfl (by exact cx_inc j) (by decide) rfl (fun ls hl => ?_)
              refine lv_goto (tgt := 23) hx hb d_B_canGo_75 (by decide) ?_
              exact ih_23 (j + 1) _ _ _ ⟨(by omega), e_n, hP, hD, hS, lv_sub hl [0, 1, 2, 3] rfl⟩ (by omega)
            · have c_48 := r_48
              refine lv_aload_n hx hb d_B_canGo_51 rfl (lv_at hl 3 rfl) ?_
              refine va_get (D := D) (ci := 1) (v := .ref aN) (C := "BuildDrawer") (T := TB) (N := 14) hx hb hw inB hown hK hP 0 rfl rfl 7 (by decide) (hw _ k_63) (fun _ h9 => h9) rfl d_B_canGo_52 ?_
              refine lv_iload_n hx hb d_B_canGo_55 rfl (lv_at hl 0 rfl) ?_
              refine va_iald hx hb hK hP 2 0 rfl rfl (vp_in_nI (n := j) (by omega) (by omega)) d_B_canGo_56 ?_
              refine cx_ti (y := fN j) (by rw [nI_clamp (by omega)]) ?_
              refine lv_iload_n hx hb d_B_canGo_57 rfl (lv_at hl 2 rfl) ?_
              refine lv_icmp_ne (tgt := 63) hx hb d_B_canGo_58 (by decide) (fun r_58 => ?_) (fun r_58 => ?_)
              · have c_58 := r_58
                have e_n := bd_nx_miss hnx (Or.inr (Or.inr r_58))
                have e_i : bd_wo fL fM k (j + 1) = bd_wo fL fM k j ||| fM j := by rw [bd_wo, if_neg c_39, if_neg r_48]
                refine lv_iload_n hx hb d_B_canGo_63 rfl (lv_at hl 1 rfl) ?_
                refine lv_aload_n hx hb d_B_canGo_64 rfl (lv_at hl 3 rfl) ?_
                refine va_get (D := D) (ci := 1) (v := .ref aM) (C := "BuildDrawer") (T := TB) (N := 14) hx hb hw inB hown hK hP 0 rfl rfl 8 (by decide) (hw _ k_64) (fun _ h9 => h9) rfl d_B_canGo_65 ?_
                refine lv_iload_n hx hb d_B_canGo_68 rfl (lv_at hl 0 rfl) ?_
                refine va_iald hx hb hK hP 3 0 rfl rfl (vp_in_nI (n := j) (by omega) (by omega)) d_B_canGo_69 ?_
                refine cx_ti (y := fM j) (by rw [nI_clamp (by omega)]) ?_
                refine lv_ior hx hb d_B_canGo_70 ?_
                refine lv_istore_n (lv' := [(2, .int ((bd_wo fL fM k j) ||| (fM j))), (3, .int (nI j)), (1, .int (nI k)), (0, .ref h0)]) hx hb d_B_canGo_71 rfl hl (by decide) rfl (fun ls hl => ?_)
                rw [← e_i] at hl
                refine lv_iinc (v := nI (j + 1)) (lv' := [(3, .int (nI (j + 1))), (2, .int (bd_wo fL fM k (j + 1))), (1, .int (nI k)), (0, .ref h0)]) hx hb d_B_canGo_72 hl (k := 1) rfl (by exact cx_inc j) (by decide) rfl (fun ls hl => ?_)
                refine lv_goto (tgt := 23) hx hb d_B_canGo_75 (by decide) ?_
                exact ih_23 (j + 1) _ _ _ ⟨(by omega), e_n, hP, hD, hS, lv_sub hl [0, 1, 2, 3] rfl⟩ (by omega)
              · have c_58 := r_58
                refine lv_iconst (v := 0) hx hb d_B_canGo_61 (by decide) ?_
                exact cx_zret hx hb hr hlocks hK hP hD hS d_B_canGo_62 (rfl) (by rw [bd_cg, if_neg r_14, if_pos (bd_nx_mono (bd_nx_hit c_39 r_48 r_58) (by omega))]) (rfl)
    · have c_14 := r_14
      refine lv_iconst (v := 0) hx hb d_B_canGo_17 (by decide) ?_
      exact cx_zret hx hb hr hlocks hK hP hD hS d_B_canGo_18 (rfl) (by rw [bd_cg, if_pos r_14]) (rfl)
set_option maxHeartbeats 4000000 in
set_option maxRecDepth 100000 in
theorem c_B_left (l : Launch) (G : cx_G) (D : va_G) (K : cx_KT) (sz : Nat) (h0 : Nat) (seed : Int64) (hM : Nat) (hO : Nat) (cnt : Nat) (aS : Nat) (aA : Nat) (aB : Nat) (aN : Nat) (aM : Nat) (aL : Nat) (vb : Int32) (vs : Int32) (aT : Nat) (tl : Int32) (fL : Nat → Int32) (i : Int32) (hcnt : cnt ≤ 62) : Met l y_B_left w_B_left ({ frames := 0, cells := 0, slots := 0, locals := 0 }) (cx_Pc G D (cx_ty K) [(h0, .inr (1, [.long seed, .ref hM, .ref hO, .int (nI cnt), .ref aS, .ref aA, .ref aB, .ref aN, .ref aM, .ref aL, .int vb, .int vs, .ref aT, .int tl])), (aL, .inl (K.2.1, 62, .inl fL))] sz [.ref h0, .int i]) (cx_Qi (bd_left fL cnt i) D (cx_ty K) [(h0, .inr (1, [.long seed, .ref hM, .ref hO, .int (nI cnt), .ref aS, .ref aA, .ref aB, .ref aN, .ref aM, .ref aL, .int vb, .int vs, .ref aT, .int tl])), (aL, .inl (K.2.1, 62, .inl fL))] (va_A [(h0, .inr (1, [.long seed, .ref hM, .ref hO, .int (nI cnt), .ref aS, .ref aA, .ref aB, .ref aN, .ref aM, .ref aL, .int vb, .int vs, .ref aT, .int tl])), (aL, .inl (K.2.1, 62, .inl fL))] sz)) 0 0 (va_A [(h0, .inr (1, [.long seed, .ref hM, .ref hO, .int (nI cnt), .ref aS, .ref aA, .ref aB, .ref aN, .ref aM, .ref aL, .int vb, .int vs, .ref aT, .int tl])), (aL, .inl (K.2.1, 62, .inl fL))] sz) := by
  refine Met.ofW (cc := prog_1_method_7_code) (maxL := 4) (ret := (some .int)) (by decide) rfl ?_
  intro p e s m args below meth c s₁ B hml hv
  obtain ⟨rfl, hsz, hP, hK, hD0, hE⟩ := hv
  have hx := B.exec
  have hb := B.bytes
  have hr := B.returns
  have hts := atoms_spec (ws := w_B_left) B.pre
  have hw : ∀ w ∈ cw, w.before _ s = true := fun w h => hts w (List.mem_cons_of_mem _ h)
  have hown : s.vm.findClass "BuildDrawer" = some m.cls := findClass_of_methodNamed B.named
  have hlocks := B.notSynchronized
  subst hsz
  have hD := hD0.self (sz := s.heap.size)
  generalize hAe : va_A [(h0, .inr (1, [.long seed, .ref hM, .ref hO, .int (nI cnt), .ref aS, .ref aA, .ref aB, .ref aN, .ref aM, .ref aL, .int vb, .int vs, .ref aT, .int tl])), (aL, .inl (K.2.1, 62, .inl fL))] s.heap.size = A at hD hE ⊢
  have hA : ∀ q : Nat, s.heap.size ≤ q → A q := fun q h => by rw [← hAe]; exact Or.inr h
  have hS : va_S A s.heap s.heap [] := va_S.rf
  have hl := lv_entry ([.ref h0, .int i]) (n := 4) (Nat.le_of_ble_eq_true rfl)
  rw [lg_entry_eq]
  generalize (lg_sl ([.ref h0, .int i]) ++ List.replicate (4 - (lg_sl ([.ref h0, .int i])).length) Slot.unset).toArray = ls at hl ⊢
  have hl : lv_has ls 4 [(0, .ref h0), (1, .int i)] := hl
  refine lv_iload_n hx hb d_B_left_0 rfl (lv_at hl 1 rfl) ?_
  refine lv_if_ge (tgt := 6) hx hb d_B_left_1 (by decide) (fun r_1 => ?_) (fun r_1 => ?_)
  · have c_1 := r_1
    refine lv_iconst (v := 0) hx hb d_B_left_6 (by decide) ?_
    refine lv_istore_n (lv' := [(2, .int 0), (0, .ref h0), (1, .int i)]) hx hb d_B_left_7 rfl hl (by decide) rfl (fun ls hl => ?_)
    refine lv_iconst (v := 0) hx hb d_B_left_8 (by decide) ?_
    refine lv_istore_n (lv' := [(3, .int 0), (2, .int 0), (0, .ref h0), (1, .int i)]) hx hb d_B_left_9 rfl hl (by decide) rfl (fun ls hl => ?_)
    refine cx_loop (pc := 10) (st := []) (fun (z : Nat × Int32) H locs ls => match z with | (j, b) => (j ≤ cnt) ∧ (bd_lg fL i (cnt - j) j b = bd_lg fL i cnt 0 0) ∧ va_P D vwCl [(h0, .inr (1, [.long seed, .ref hM, .ref hO, .int (nI cnt), .ref aS, .ref aA, .ref aB, .ref aN, .ref aM, .ref aL, .int vb, .int vs, .ref aT, .int tl])), (aL, .inl (K.2.1, 62, .inl fL))] H ∧ va_D A [(h0, .inr (1, [.long seed, .ref hM, .ref hO, .int (nI cnt), .ref aS, .ref aA, .ref aB, .ref aN, .ref aM, .ref aL, .int vb, .int vs, .ref aT, .int tl])), (aL, .inl (K.2.1, 62, .inl fL))] ∧ va_S A s.heap H locs ∧ lv_has ls 4 [(3, .int (nI j)), (2, .int b), (1, .int i), (0, .ref h0)]) (fun (z : Nat × Int32) => match z with | (j, b) => cnt - j) (fun z H locs ls hI ih_10 => ?_) (0, 0) ⟨Nat.zero_le _, rfl, hP, hD, hS, lv_sub hl [0, 1, 3, 2] rfl⟩
    obtain ⟨j, b⟩ := z
    obtain ⟨hj, hb9, hP, hD, hS, hl⟩ := hI
    have hP : va_P D vwCl [(h0, .inr (1, [.long seed, .ref hM, .ref hO, .int (nI cnt), .ref aS, .ref aA, .ref aB, .ref aN, .ref aM, .ref aL, .int vb, .int vs, .ref aT, .int tl])), (aL, .inl (K.2.1, 62, .inl fL))] H := hP
    have hD : va_D A [(h0, .inr (1, [.long seed, .ref hM, .ref hO, .int (nI cnt), .ref aS, .ref aA, .ref aB, .ref aN, .ref aM, .ref aL, .int vb, .int vs, .ref aT, .int tl])), (aL, .inl (K.2.1, 62, .inl fL))] := hD
    have hl : lv_has ls 4 [(3, .int (nI j)), (2, .int b), (1, .int i), (0, .ref h0)] := hl
    refine lv_iload_n hx hb d_B_left_10 rfl (lv_at hl 0 rfl) ?_
    refine lv_aload_n hx hb d_B_left_11 rfl (lv_at hl 3 rfl) ?_
    refine va_get (D := D) (ci := 1) (v := .int (nI cnt)) (C := "BuildDrawer") (T := TB) (N := 14) hx hb hw inB hown hK hP 0 rfl rfl 3 (by decide) (hw _ k_59) (fun _ h9 => h9) rfl d_B_left_12 ?_
    refine lv_icmp_ge (tgt := 49) hx hb d_B_left_15 (by decide) (fun r_15 => ?_) (fun r_15 => ?_)
    · have c_15 := (nI_leI (a := cnt) (b := j) (by omega) (by omega)).mp r_15
      refine lv_iconst (v := (-1)) hx hb d_B_left_49 (by decide) ?_
      exact cx_iret hx hb hr hlocks hK hP hD hS d_B_left_50 (by rw [bd_left, if_neg (Int32.not_lt.mpr r_1), ← hb9, show cnt - j = 0 by omega, bd_lg]) (rfl)
    · have c_15 := mt (nI_leI (a := cnt) (b := j) (by omega) (by omega)).mpr r_15
      refine lv_iload_n hx hb d_B_left_18 rfl (lv_at hl 0 rfl) ?_
      refine lv_bipush (v := 62) hx hb d_B_left_19 (by decide) ?_
      refine lv_icmp_ge (tgt := 49) hx hb d_B_left_21 (by decide) (fun r_21 => ?_) (fun r_21 => ?_)
      · have c_21 := (nI_leI (a := 62) (b := j) (by omega) (by omega)).mp r_21
        omega
      · have c_21 := mt (nI_leI (a := 62) (b := j) (by omega) (by omega)).mpr r_21
        refine lv_aload_n hx hb d_B_left_24 rfl (lv_at hl 3 rfl) ?_
        refine va_get (D := D) (ci := 1) (v := .ref aL) (C := "BuildDrawer") (T := TB) (N := 14) hx hb hw inB hown hK hP 0 rfl rfl 9 (by decide) (hw _ k_65) (fun _ h9 => h9) rfl d_B_left_25 ?_
        refine lv_iload_n hx hb d_B_left_28 rfl (lv_at hl 0 rfl) ?_
        refine va_zald hx hb hK hP 1 1 rfl rfl (vp_in_nI (n := j) (by omega) (by omega)) d_B_left_29 ?_
        refine cx_ti (y := fL j) (by rw [nI_clamp (by omega)]) ?_
        refine lv_if_eq (tgt := 43) hx hb d_B_left_30 (by decide) (fun r_30 => ?_) (fun r_30 => ?_)
        · have c_30 := r_30
          have e_i : bd_lg fL i (cnt - (j + 1) + 1) j b = bd_lg fL i (cnt - (j + 1)) (j + 1) b := by rw [bd_lg, if_pos r_30]
          refine lv_iinc (v := nI (j + 1)) (lv' := [(3, .int (nI (j + 1))), (2, .int b), (1, .int i), (0, .ref h0)]) hx hb d_B_left_43 hl (k := 0) rfl (by exact cx_inc j) (by decide) rfl (fun ls hl => ?_)
          refine lv_goto (tgt := 10) hx hb d_B_left_46 (by decide) ?_
          exact ih_10 ((j + 1), b) _ _ _ ⟨(by omega), (by rw [← hb9, show cnt - j = (cnt - (j + 1)) + 1 by omega]; exact e_i.symm), hP, hD, hS, lv_sub hl [0, 1, 2, 3] rfl⟩ (show cnt - (j + 1) < cnt - j by omega)
        · have c_30 := r_30
          refine lv_iload_n hx hb d_B_left_33 rfl (lv_at hl 1 rfl) ?_
          refine lv_iload_n hx hb d_B_left_34 rfl (lv_at hl 2 rfl) ?_
          refine lv_icmp_ne (tgt := 40) hx hb d_B_left_35 (by decide) (fun r_35 => ?_) (fun r_35 => ?_)
          · have c_35 := r_35
            have e_i : bd_lg fL i (cnt - (j + 1) + 1) j b = bd_lg fL i (cnt - (j + 1)) (j + 1) (b + 1) := by rw [bd_lg, if_neg r_30, if_neg r_35]
            refine lv_iinc (v := b + 1) (lv' := [(2, .int (b + 1)), (3, .int (nI j)), (1, .int i), (0, .ref h0)]) hx hb d_B_left_40 hl (k := 1) rfl (by exact rfl) (by decide) rfl (fun ls hl => ?_)
            refine lv_iinc (v := nI (j + 1)) (lv' := [(3, .int (nI (j + 1))), (2, .int (b + 1)), (1, .int i), (0, .ref h0)]) hx hb d_B_left_43 hl (k := 1) rfl (by exact cx_inc j) (by decide) rfl (fun ls hl => ?_)
            refine lv_goto (tgt := 10) hx hb d_B_left_46 (by decide) ?_
            exact ih_10 ((j + 1), (b + 1)) _ _ _ ⟨(by omega), (by rw [← hb9, show cnt - j = (cnt - (j + 1)) + 1 by omega]; exact e_i.symm), hP, hD, hS, lv_sub hl [0, 1, 2, 3] rfl⟩ (show cnt - (j + 1) < cnt - j by omega)
          · have c_35 := r_35
            refine lv_iload_n hx hb d_B_left_38 rfl (lv_at hl 0 rfl) ?_
            exact cx_iret hx hb hr hlocks hK hP hD hS d_B_left_39 (by rw [bd_left, if_neg (Int32.not_lt.mpr r_1), ← hb9, show cnt - j = (cnt - (j + 1)) + 1 by omega, bd_lg, if_neg r_30, if_pos r_35]) (rfl)
  · have c_1 := r_1
    refine lv_iconst (v := (-1)) hx hb d_B_left_4 (by decide) ?_
    exact cx_iret hx hb hr hlocks hK hP hD hS d_B_left_5 (by rw [bd_left, if_pos (Int32.not_le.mp r_1)]) (rfl)
set_option maxHeartbeats 4000000 in
set_option maxRecDepth 100000 in
theorem c_B_minimal (l : Launch) (G : cx_G) (D : va_G) (K : cx_KT) (sz : Nat) (h0 : Nat) (seed : Int64) (hM : Nat) (hO : Nat) (cnt : Nat) (aS : Nat) (aA : Nat) (aB : Nat) (aN : Nat) (aM : Nat) (aL : Nat) (vb : Int32) (vs : Int32) (aT : Nat) (tl : Int32) (fL : Nat → Int32) (fN : Nat → Int32) (fM : Nat → Int32) (hcnt : cnt ≤ 62) : Met l y_B_minimal w_B_minimal ({ frames := 2, cells := 0, slots := 0, locals := 45 }) (cx_Pc G D (cx_ty K) [(h0, .inr (1, [.long seed, .ref hM, .ref hO, .int (nI cnt), .ref aS, .ref aA, .ref aB, .ref aN, .ref aM, .ref aL, .int vb, .int vs, .ref aT, .int tl])), (aL, .inl (K.2.1, 62, .inl fL)), (aN, .inl (K.1, 62, .inl fN)), (aM, .inl (K.1, 62, .inl fM))] sz [.ref h0]) (cx_Qi (bd_mi (fun k => bd_cg fL fN fM vb vs cnt k) cnt 0) D (cx_ty K) [(h0, .inr (1, [.long seed, .ref hM, .ref hO, .int (nI cnt), .ref aS, .ref aA, .ref aB, .ref aN, .ref aM, .ref aL, .int vb, .int vs, .ref aT, .int tl])), (aL, .inl (K.2.1, 62, .inl fL)), (aN, .inl (K.1, 62, .inl fN)), (aM, .inl (K.1, 62, .inl fM))] (va_A [(h0, .inr (1, [.long seed, .ref hM, .ref hO, .int (nI cnt), .ref aS, .ref aA, .ref aB, .ref aN, .ref aM, .ref aL, .int vb, .int vs, .ref aT, .int tl])), (aL, .inl (K.2.1, 62, .inl fL)), (aN, .inl (K.1, 62, .inl fN)), (aM, .inl (K.1, 62, .inl fM))] sz)) 0 0 (va_A [(h0, .inr (1, [.long seed, .ref hM, .ref hO, .int (nI cnt), .ref aS, .ref aA, .ref aB, .ref aN, .ref aM, .ref aL, .int vb, .int vs, .ref aT, .int tl])), (aL, .inl (K.2.1, 62, .inl fL)), (aN, .inl (K.1, 62, .inl fN)), (aM, .inl (K.1, 62, .inl fM))] sz) := by
  refine Met.ofW (cc := prog_1_method_8_code) (maxL := 2) (ret := (some .boolean)) (by decide) rfl ?_
  intro p e s m args below meth c s₁ B hml hv
  obtain ⟨rfl, hsz, hP, hK, hD0, hE⟩ := hv
  have hx := B.exec
  have hb := B.bytes
  have hr := B.returns
  have hts := atoms_spec (ws := w_B_minimal) B.pre
  have hw : ∀ w ∈ cw, w.before _ s = true := fun w h => hts w (List.mem_cons_of_mem _ h)
  have hown : s.vm.findClass "BuildDrawer" = some m.cls := findClass_of_methodNamed B.named
  have hlocks := B.notSynchronized
  subst hsz
  have hD := hD0.self (sz := s.heap.size)
  generalize hAe : va_A [(h0, .inr (1, [.long seed, .ref hM, .ref hO, .int (nI cnt), .ref aS, .ref aA, .ref aB, .ref aN, .ref aM, .ref aL, .int vb, .int vs, .ref aT, .int tl])), (aL, .inl (K.2.1, 62, .inl fL)), (aN, .inl (K.1, 62, .inl fN)), (aM, .inl (K.1, 62, .inl fM))] s.heap.size = A at hD hE ⊢
  have hA : ∀ q : Nat, s.heap.size ≤ q → A q := fun q h => by rw [← hAe]; exact Or.inr h
  have hS : va_S A s.heap s.heap [] := va_S.rf
  have hl := lv_entry ([.ref h0]) (n := 2) (Nat.le_of_ble_eq_true rfl)
  rw [lg_entry_eq]
  generalize (lg_sl ([.ref h0]) ++ List.replicate (2 - (lg_sl ([.ref h0])).length) Slot.unset).toArray = ls at hl ⊢
  have hl : lv_has ls 2 [(0, .ref h0)] := hl
  refine lv_iconst (v := 0) hx hb d_B_minimal_0 (by decide) ?_
  refine lv_istore_n (lv' := [(1, .int 0), (0, .ref h0)]) hx hb d_B_minimal_1 rfl hl (by decide) rfl (fun ls hl => ?_)
  refine cx_loop (pc := 2) (st := []) (fun (j : Nat) H locs ls => (j ≤ cnt) ∧ (bd_mi (fun k => bd_cg fL fN fM vb vs cnt k) (cnt - j) j = bd_mi (fun k => bd_cg fL fN fM vb vs cnt k) cnt 0) ∧ va_P D vwCl [(h0, .inr (1, [.long seed, .ref hM, .ref hO, .int (nI cnt), .ref aS, .ref aA, .ref aB, .ref aN, .ref aM, .ref aL, .int vb, .int vs, .ref aT, .int tl])), (aL, .inl (K.2.1, 62, .inl fL)), (aN, .inl (K.1, 62, .inl fN)), (aM, .inl (K.1, 62, .inl fM))] H ∧ va_D A [(h0, .inr (1, [.long seed, .ref hM, .ref hO, .int (nI cnt), .ref aS, .ref aA, .ref aB, .ref aN, .ref aM, .ref aL, .int vb, .int vs, .ref aT, .int tl])), (aL, .inl (K.2.1, 62, .inl fL)), (aN, .inl (K.1, 62, .inl fN)), (aM, .inl (K.1, 62, .inl fM))] ∧ va_S A s.heap H locs ∧ lv_has ls 2 [(1, .int (nI j)), (0, .ref h0)]) (fun (j : Nat) => cnt - j) (fun z H locs ls hI ih_2 => ?_) 0 ⟨Nat.zero_le _, rfl, hP, hD, hS, lv_sub hl [0, 1] rfl⟩
  obtain ⟨j, rfl⟩ : ∃ y, y = z := ⟨_, rfl⟩
  obtain ⟨hj, hb9, hP, hD, hS, hl⟩ := hI
  have hP : va_P D vwCl [(h0, .inr (1, [.long seed, .ref hM, .ref hO, .int (nI cnt), .ref aS, .ref aA, .ref aB, .ref aN, .ref aM, .ref aL, .int vb, .int vs, .ref aT, .int tl])), (aL, .inl (K.2.1, 62, .inl fL)), (aN, .inl (K.1, 62, .inl fN)), (aM, .inl (K.1, 62, .inl fM))] H := hP
  have hD : va_D A [(h0, .inr (1, [.long seed, .ref hM, .ref hO, .int (nI cnt), .ref aS, .ref aA, .ref aB, .ref aN, .ref aM, .ref aL, .int vb, .int vs, .ref aT, .int tl])), (aL, .inl (K.2.1, 62, .inl fL)), (aN, .inl (K.1, 62, .inl fN)), (aM, .inl (K.1, 62, .inl fM))] := hD
  have hl : lv_has ls 2 [(1, .int (nI j)), (0, .ref h0)] := hl
  refine lv_iload_n hx hb d_B_minimal_2 rfl (lv_at hl 0 rfl) ?_
  refine lv_aload_n hx hb d_B_minimal_3 rfl (lv_at hl 1 rfl) ?_
  refine va_get (D := D) (ci := 1) (v := .int (nI cnt)) (C := "BuildDrawer") (T := TB) (N := 14) hx hb hw inB hown hK hP 0 rfl rfl 3 (by decide) (hw _ k_59) (fun _ h9 => h9) rfl d_B_minimal_4 ?_
  refine lv_icmp_ge (tgt := 26) hx hb d_B_minimal_7 (by decide) (fun r_7 => ?_) (fun r_7 => ?_)
  · have c_7 := (nI_leI (a := cnt) (b := j) (by omega) (by omega)).mp r_7
    refine lv_iconst (v := 1) hx hb d_B_minimal_26 (by decide) ?_
    exact cx_zret hx hb hr hlocks hK hP hD hS d_B_minimal_27 (rfl) (by rw [← hb9, show cnt - j = 0 by omega, bd_mi]) (rfl)
  · have c_7 := mt (nI_leI (a := cnt) (b := j) (by omega) (by omega)).mpr r_7
    refine lv_aload_n hx hb d_B_minimal_10 rfl (lv_at hl 1 rfl) ?_
    refine lv_iload_n hx hb d_B_minimal_11 rfl (lv_at hl 0 rfl) ?_
    refine cx_ci (wr := []) (wN := [(h0, .inr (1, [.long seed, .ref hM, .ref hO, .int (nI cnt), .ref aS, .ref aA, .ref aB, .ref aN, .ref aM, .ref aL, .int vb, .int vs, .ref aT, .int tl])), (aL, .inl (K.2.1, 62, .inl fL)), (aN, .inl (K.1, 62, .inl fN)), (aM, .inl (K.1, 62, .inl fM))]) (va_runV (As := [.int (nI j)]) (rest := []) ⟨hx, hb, hml, hown, hw⟩ (c_B_canGo l G D K H.size h0 seed hM hO cnt aS aA aB aN aM aL vb vs aT tl fL fN fM j (by omega) (by omega)) (cwV 1 hw (cx_gV k_270 k_272 ks_B_canGo k_1 k_273) rfl rfl rfl (by decide +kernel) ⟨Nat.le_of_ble_eq_true rfl, Nat.le_of_ble_eq_true rfl⟩) (cx_preV (q0 := 0) (ci := 1) hK hP hD hS hA hE rfl rfl [0, 1, 2, 3] rfl rfl (by decide)) rfl rfl hl.1 rfl (lv_room (Nat.le_of_ble_eq_true rfl)) d_B_minimal_12 ⟨Nat.le_of_ble_eq_true rfl, Nat.le_of_ble_eq_true rfl⟩) hP hD hS hA [0, 1, 2, 3] [] rfl rfl (by decide) (by decide) [0, 1, 2, 3] rfl rfl (by decide) (fun H locs hP hD hS => ?_)
    refine lv_if_eq (tgt := 20) hx hb d_B_minimal_15 (by decide) (fun r_15 => ?_) (fun r_15 => ?_)
    · have c_15 := r_15
      refine lv_iinc (v := nI (j + 1)) (lv' := [(1, .int (nI (j + 1))), (0, .ref h0)]) hx hb d_B_minimal_20 hl (k := 0) rfl (by exact cx_inc j) (by decide) rfl (fun ls hl => ?_)
      refine lv_goto (tgt := 2) hx hb d_B_minimal_23 (by decide) ?_
      exact ih_2 (j + 1) _ _ _ ⟨(by omega), (by rw [← hb9, show cnt - j = (cnt - (j + 1)) + 1 by omega, bd_mi, if_pos r_15]), hP, hD, hS, lv_sub hl [0, 1] rfl⟩ (by omega)
    · have c_15 := r_15
      refine lv_iconst (v := 0) hx hb d_B_minimal_18 (by decide) ?_
      exact cx_zret hx hb hr hlocks hK hP hD hS d_B_minimal_19 (rfl) (by rw [← hb9, show cnt - j = (cnt - (j + 1)) + 1 by omega, bd_mi, if_neg r_15]) (rfl)
set_option maxHeartbeats 4000000 in
set_option maxRecDepth 100000 in
theorem c_B_leaveOutFromLastToFirst (l : Launch) (G : cx_G) (D : va_G) (K : cx_KT) (sz : Nat) (h0 : Nat) (seed : Int64) (hM : Nat) (hO : Nat) (cnt : Nat) (aS : Nat) (aA : Nat) (aB : Nat) (aN : Nat) (aM : Nat) (aL : Nat) (vb : Int32) (vs : Int32) (aT : Nat) (tl : Int32) (fL : Nat → Int32) (fN : Nat → Int32) (fM : Nat → Int32) (hcnt : cnt ≤ 62) : Met l y_B_leaveOutFromLastToFirst w_B_leaveOutFromLastToFirst ({ frames := 2, cells := 0, slots := 0, locals := 45 }) (cx_Pc G D (cx_ty K) [(h0, .inr (1, [.long seed, .ref hM, .ref hO, .int (nI cnt), .ref aS, .ref aA, .ref aB, .ref aN, .ref aM, .ref aL, .int vb, .int vs, .ref aT, .int tl])), (aL, .inl (K.2.1, 62, .inl fL)), (aN, .inl (K.1, 62, .inl fN)), (aM, .inl (K.1, 62, .inl fM))] sz [.ref h0]) (cx_Qi ((bd_lo (fun f k => bd_cg f fN fM vb vs cnt k) cnt fL 0).2) D (cx_ty K) [(h0, .inr (1, [.long seed, .ref hM, .ref hO, .int (nI cnt), .ref aS, .ref aA, .ref aB, .ref aN, .ref aM, .ref aL, .int vb, .int vs, .ref aT, .int tl])), (aL, .inl (K.2.1, 62, .inl ((bd_lo (fun f k => bd_cg f fN fM vb vs cnt k) cnt fL 0).1))), (aN, .inl (K.1, 62, .inl fN)), (aM, .inl (K.1, 62, .inl fM))] (va_A [(h0, .inr (1, [.long seed, .ref hM, .ref hO, .int (nI cnt), .ref aS, .ref aA, .ref aB, .ref aN, .ref aM, .ref aL, .int vb, .int vs, .ref aT, .int tl])), (aL, .inl (K.2.1, 62, .inl fL)), (aN, .inl (K.1, 62, .inl fN)), (aM, .inl (K.1, 62, .inl fM))] sz)) 0 0 (va_A [(h0, .inr (1, [.long seed, .ref hM, .ref hO, .int (nI cnt), .ref aS, .ref aA, .ref aB, .ref aN, .ref aM, .ref aL, .int vb, .int vs, .ref aT, .int tl])), (aL, .inl (K.2.1, 62, .inl fL)), (aN, .inl (K.1, 62, .inl fN)), (aM, .inl (K.1, 62, .inl fM))] sz) := by
  refine Met.ofW (cc := prog_1_method_19_code) (maxL := 3) (ret := (some .boolean)) (by decide) rfl ?_
  intro p e s m args below meth c s₁ B hml hv
  obtain ⟨rfl, hsz, hP, hK, hD0, hE⟩ := hv
  have hx := B.exec
  have hb := B.bytes
  have hr := B.returns
  have hts := atoms_spec (ws := w_B_leaveOutFromLastToFirst) B.pre
  have hw : ∀ w ∈ cw, w.before _ s = true := fun w h => hts w (List.mem_cons_of_mem _ h)
  have hown : s.vm.findClass "BuildDrawer" = some m.cls := findClass_of_methodNamed B.named
  have hlocks := B.notSynchronized
  subst hsz
  have hD := hD0.self (sz := s.heap.size)
  generalize hAe : va_A [(h0, .inr (1, [.long seed, .ref hM, .ref hO, .int (nI cnt), .ref aS, .ref aA, .ref aB, .ref aN, .ref aM, .ref aL, .int vb, .int vs, .ref aT, .int tl])), (aL, .inl (K.2.1, 62, .inl fL)), (aN, .inl (K.1, 62, .inl fN)), (aM, .inl (K.1, 62, .inl fM))] s.heap.size = A at hD hE ⊢
  have hA : ∀ q : Nat, s.heap.size ≤ q → A q := fun q h => by rw [← hAe]; exact Or.inr h
  have hS : va_S A s.heap s.heap [] := va_S.rf
  have hl := lv_entry ([.ref h0]) (n := 3) (Nat.le_of_ble_eq_true rfl)
  rw [lg_entry_eq]
  generalize (lg_sl ([.ref h0]) ++ List.replicate (3 - (lg_sl ([.ref h0])).length) Slot.unset).toArray = ls at hl ⊢
  have hl : lv_has ls 3 [(0, .ref h0)] := hl
  refine lv_iconst (v := 0) hx hb d_B_leaveOutFromLastToFirst_0 (by decide) ?_
  refine lv_istore_n (lv' := [(1, .int 0), (0, .ref h0)]) hx hb d_B_leaveOutFromLastToFirst_1 rfl hl (by decide) rfl (fun ls hl => ?_)
  refine lv_aload_n hx hb d_B_leaveOutFromLastToFirst_2 rfl (lv_at hl 1 rfl) ?_
  refine va_get (D := D) (ci := 1) (v := .int (nI cnt)) (C := "BuildDrawer") (T := TB) (N := 14) hx hb hw inB hown hK hP 0 rfl rfl 3 (by decide) (hw _ k_59) (fun _ h9 => h9) rfl d_B_leaveOutFromLastToFirst_3 ?_
  refine lv_iconst (v := 1) hx hb d_B_leaveOutFromLastToFirst_6 (by decide) ?_
  refine lv_isub hx hb d_B_leaveOutFromLastToFirst_7 ?_
  refine lv_istore_n (lv' := [(2, .int ((nI cnt) - 1)), (1, .int 0), (0, .ref h0)]) hx hb d_B_leaveOutFromLastToFirst_8 rfl hl (by decide) rfl (fun ls hl => ?_)
  refine cx_loop (pc := 9) (st := []) (fun (z : Nat × (Nat → Int32) × Int32) H locs ls => match z with | (q, f, w) => (q ≤ cnt) ∧ (w = 0 ∨ w = 1) ∧ (bd_lo (fun f k => bd_cg f fN fM vb vs cnt k) q f w = bd_lo (fun f k => bd_cg f fN fM vb vs cnt k) cnt fL 0) ∧ va_P D vwCl [(h0, .inr (1, [.long seed, .ref hM, .ref hO, .int (nI cnt), .ref aS, .ref aA, .ref aB, .ref aN, .ref aM, .ref aL, .int vb, .int vs, .ref aT, .int tl])), (aL, .inl (K.2.1, 62, .inl f)), (aN, .inl (K.1, 62, .inl fN)), (aM, .inl (K.1, 62, .inl fM))] H ∧ va_D A [(h0, .inr (1, [.long seed, .ref hM, .ref hO, .int (nI cnt), .ref aS, .ref aA, .ref aB, .ref aN, .ref aM, .ref aL, .int vb, .int vs, .ref aT, .int tl])), (aL, .inl (K.2.1, 62, .inl f)), (aN, .inl (K.1, 62, .inl fN)), (aM, .inl (K.1, 62, .inl fM))] ∧ va_S A s.heap H locs ∧ lv_has ls 3 [(2, .int (nI q - 1)), (1, .int w), (0, .ref h0)]) (fun (z : Nat × (Nat → Int32) × Int32) => match z with | (q, f, w) => q) (fun z H locs ls hI ih_9 => ?_) (cnt, fL, 0) ⟨Nat.le_refl _, Or.inl rfl, rfl, hP, hD, hS, lv_sub hl [0, 1, 2] rfl⟩
  obtain ⟨q, f, w⟩ := z
  obtain ⟨hq, hw9, hb9, hP, hD, hS, hl⟩ := hI
  have hP : va_P D vwCl [(h0, .inr (1, [.long seed, .ref hM, .ref hO, .int (nI cnt), .ref aS, .ref aA, .ref aB, .ref aN, .ref aM, .ref aL, .int vb, .int vs, .ref aT, .int tl])), (aL, .inl (K.2.1, 62, .inl f)), (aN, .inl (K.1, 62, .inl fN)), (aM, .inl (K.1, 62, .inl fM))] H := hP
  have hD : va_D A [(h0, .inr (1, [.long seed, .ref hM, .ref hO, .int (nI cnt), .ref aS, .ref aA, .ref aB, .ref aN, .ref aM, .ref aL, .int vb, .int vs, .ref aT, .int tl])), (aL, .inl (K.2.1, 62, .inl f)), (aN, .inl (K.1, 62, .inl fN)), (aM, .inl (K.1, 62, .inl fM))] := hD
  have hl : lv_has ls 3 [(2, .int (nI q - 1)), (1, .int w), (0, .ref h0)] := hl
  refine lv_iload_n hx hb d_B_leaveOutFromLastToFirst_9 rfl (lv_at hl 0 rfl) ?_
  refine lv_if_lt (tgt := 42) hx hb d_B_leaveOutFromLastToFirst_10 (by decide) (fun r_10 => ?_) (fun r_10 => ?_)
  · have c_10 := r_10
    have c_10 := (bd_dn_lt (by omega)).mp r_10
    subst c_10
    refine lv_iload_n hx hb d_B_leaveOutFromLastToFirst_42 rfl (lv_at hl 1 rfl) ?_
    exact cx_zret hx hb hr hlocks hK hP hD hS d_B_leaveOutFromLastToFirst_43 ((bd_01 hw9).1) (by rw [← hb9, bd_lo]) (by rw [← hb9, bd_lo])
  · have c_10 := r_10
    have c_10 := mt (bd_dn_lt (by omega)).mpr r_10
    obtain ⟨k, rfl⟩ : ∃ k, q = k + 1 := ⟨q - 1, by omega⟩
    rw [nI_pred] at hl
    refine lv_iload_n hx hb d_B_leaveOutFromLastToFirst_13 rfl (lv_at hl 0 rfl) ?_
    refine lv_bipush (v := 62) hx hb d_B_leaveOutFromLastToFirst_14 (by decide) ?_
    refine lv_icmp_ge (tgt := 36) hx hb d_B_leaveOutFromLastToFirst_16 (by decide) (fun r_16 => ?_) (fun r_16 => ?_)
    · have c_16 := (nI_leI (a := 62) (b := k) (by omega) (by omega)).mp r_16
      omega
    · have c_16 := mt (nI_leI (a := 62) (b := k) (by omega) (by omega)).mpr r_16
      refine lv_aload_n hx hb d_B_leaveOutFromLastToFirst_19 rfl (lv_at hl 2 rfl) ?_
      refine lv_iload_n hx hb d_B_leaveOutFromLastToFirst_20 rfl (lv_at hl 0 rfl) ?_
      refine cx_ci (wr := []) (wN := [(h0, .inr (1, [.long seed, .ref hM, .ref hO, .int (nI cnt), .ref aS, .ref aA, .ref aB, .ref aN, .ref aM, .ref aL, .int vb, .int vs, .ref aT, .int tl])), (aL, .inl (K.2.1, 62, .inl f)), (aN, .inl (K.1, 62, .inl fN)), (aM, .inl (K.1, 62, .inl fM))]) (va_runV (As := [.int (nI k)]) (rest := []) ⟨hx, hb, hml, hown, hw⟩ (c_B_canGo l G D K H.size h0 seed hM hO cnt aS aA aB aN aM aL vb vs aT tl f fN fM k (by omega) (by omega)) (cwV 1 hw (cx_gV k_270 k_272 ks_B_canGo k_1 k_273) rfl rfl rfl (by decide +kernel) ⟨Nat.le_of_ble_eq_true rfl, Nat.le_of_ble_eq_true rfl⟩) (cx_preV (q0 := 0) (ci := 1) hK hP hD hS hA hE rfl rfl [0, 1, 2, 3] rfl rfl (by decide)) rfl rfl hl.1 rfl (lv_room (Nat.le_of_ble_eq_true rfl)) d_B_leaveOutFromLastToFirst_21 ⟨Nat.le_of_ble_eq_true rfl, Nat.le_of_ble_eq_true rfl⟩) hP hD hS hA [0, 1, 2, 3] [] rfl rfl (by decide) (by decide) [0, 1, 2, 3] rfl rfl (by decide) (fun H locs hP hD hS => ?_)
      refine lv_if_eq (tgt := 36) hx hb d_B_leaveOutFromLastToFirst_24 (by decide) (fun r_24 => ?_) (fun r_24 => ?_)
      · have c_24 := r_24
        have e_i : bd_lo (fun f k => bd_cg f fN fM vb vs cnt k) (k + 1) f w = bd_lo (fun f k => bd_cg f fN fM vb vs cnt k) k f w := by rw [bd_lo, if_pos r_24]
        refine lv_iinc (v := nI k - 1) (lv' := [(2, .int (nI k - 1)), (1, .int w), (0, .ref h0)]) hx hb d_B_leaveOutFromLastToFirst_36 hl (k := 0) rfl (by exact cx_dec k) (by decide) rfl (fun ls hl => ?_)
        refine lv_goto (tgt := 9) hx hb d_B_leaveOutFromLastToFirst_39 (by decide) ?_
        exact ih_9 (k, f, w) _ _ _ ⟨(by omega), (by first | exact hw9 | exact Or.inr rfl), (by rw [← hb9]; exact e_i.symm), hP, hD, hS, lv_sub hl [0, 1, 2] rfl⟩ (show k < k + 1 by omega)
      · have c_24 := r_24
        have e_i : bd_lo (fun f k => bd_cg f fN fM vb vs cnt k) (k + 1) f w = bd_lo (fun f k => bd_cg f fN fM vb vs cnt k) k (upd f k 0) 1 := by rw [bd_lo, if_neg r_24]
        refine lv_aload_n hx hb d_B_leaveOutFromLastToFirst_27 rfl (lv_at hl 2 rfl) ?_
        refine va_get (D := D) (ci := 1) (v := .ref aL) (C := "BuildDrawer") (T := TB) (N := 14) hx hb hw inB hown hK hP 0 rfl rfl 9 (by decide) (hw _ k_65) (fun _ h9 => h9) rfl d_B_leaveOutFromLastToFirst_28 ?_
        refine lv_iload_n hx hb d_B_leaveOutFromLastToFirst_31 rfl (lv_at hl 0 rfl) ?_
        refine lv_iconst (v := 0) hx hb d_B_leaveOutFromLastToFirst_32 (by decide) ?_
        refine va_zast hx hb hK hP hD hS 1 1 rfl rfl (vp_in_nI (n := k) (by omega) (by omega)) d_B_leaveOutFromLastToFirst_33 (fun H locs hP hD hS => ?_)
        have e_33 : upd f (nI k).toNatClampNeg (vp_nar .boolean 0) = upd f k 0 := by rw [nI_clamp (by omega), bd_nar0]
        have hP : va_P D vwCl [(h0, .inr (1, [.long seed, .ref hM, .ref hO, .int (nI cnt), .ref aS, .ref aA, .ref aB, .ref aN, .ref aM, .ref aL, .int vb, .int vs, .ref aT, .int tl])), (aL, .inl (K.2.1, 62, .inl (upd f (nI k).toNatClampNeg (vp_nar .boolean 0)))), (aN, .inl (K.1, 62, .inl fN)), (aM, .inl (K.1, 62, .inl fM))] H := hP
        have hD : va_D A [(h0, .inr (1, [.long seed, .ref hM, .ref hO, .int (nI cnt), .ref aS, .ref aA, .ref aB, .ref aN, .ref aM, .ref aL, .int vb, .int vs, .ref aT, .int tl])), (aL, .inl (K.2.1, 62, .inl (upd f (nI k).toNatClampNeg (vp_nar .boolean 0)))), (aN, .inl (K.1, 62, .inl fN)), (aM, .inl (K.1, 62, .inl fM))] := hD
        rw [e_33] at hP hD
        have hP : va_P D vwCl [(h0, .inr (1, [.long seed, .ref hM, .ref hO, .int (nI cnt), .ref aS, .ref aA, .ref aB, .ref aN, .ref aM, .ref aL, .int vb, .int vs, .ref aT, .int tl])), (aL, .inl (K.2.1, 62, .inl (upd f k 0))), (aN, .inl (K.1, 62, .inl fN)), (aM, .inl (K.1, 62, .inl fM))] H := hP
        have hD : va_D A [(h0, .inr (1, [.long seed, .ref hM, .ref hO, .int (nI cnt), .ref aS, .ref aA, .ref aB, .ref aN, .ref aM, .ref aL, .int vb, .int vs, .ref aT, .int tl])), (aL, .inl (K.2.1, 62, .inl (upd f k 0))), (aN, .inl (K.1, 62, .inl fN)), (aM, .inl (K.1, 62, .inl fM))] := hD
        refine lv_iconst (v := 1) hx hb d_B_leaveOutFromLastToFirst_34 (by decide) ?_
        refine lv_istore_n (lv' := [(1, .int 1), (2, .int (nI k)), (0, .ref h0)]) hx hb d_B_leaveOutFromLastToFirst_35 rfl hl (by decide) rfl (fun ls hl => ?_)
        refine lv_iinc (v := nI k - 1) (lv' := [(2, .int (nI k - 1)), (1, .int 1), (0, .ref h0)]) hx hb d_B_leaveOutFromLastToFirst_36 hl (k := 1) rfl (by exact cx_dec k) (by decide) rfl (fun ls hl => ?_)
        refine lv_goto (tgt := 9) hx hb d_B_leaveOutFromLastToFirst_39 (by decide) ?_
        exact ih_9 (k, (upd f k 0), 1) _ _ _ ⟨(by omega), (by first | exact hw9 | exact Or.inr rfl), (by rw [← hb9]; exact e_i.symm), hP, hD, hS, lv_sub hl [0, 1, 2] rfl⟩ (show k < k + 1 by omega)
set_option maxHeartbeats 4000000 in
set_option maxRecDepth 100000 in
theorem c_B_leaveOutAllThatCanGo (l : Launch) (G : cx_G) (D : va_G) (K : cx_KT) (sz : Nat) (h0 : Nat) (seed : Int64) (hM : Nat) (hO : Nat) (cnt : Nat) (aS : Nat) (aA : Nat) (aB : Nat) (aN : Nat) (aM : Nat) (aL : Nat) (vb : Int32) (vs : Int32) (aT : Nat) (tl : Int32) (fL : Nat → Int32) (fN : Nat → Int32) (fM : Nat → Int32) (hcnt : cnt ≤ 62) : Met l y_B_leaveOutAllThatCanGo w_B_leaveOutAllThatCanGo ({ frames := 3, cells := 0, slots := 0, locals := 67 }) (cx_Pc G D (cx_ty K) [(h0, .inr (1, [.long seed, .ref hM, .ref hO, .int (nI cnt), .ref aS, .ref aA, .ref aB, .ref aN, .ref aM, .ref aL, .int vb, .int vs, .ref aT, .int tl])), (aL, .inl (K.2.1, 62, .inl fL)), (aN, .inl (K.1, 62, .inl fN)), (aM, .inl (K.1, 62, .inl fM))] sz [.ref h0]) (cx_Qv D (cx_ty K) [(h0, .inr (1, [.long seed, .ref hM, .ref hO, .int (nI cnt), .ref aS, .ref aA, .ref aB, .ref aN, .ref aM, .ref aL, .int vb, .int vs, .ref aT, .int (-1)])), (aL, .inl (K.2.1, 62, .inl (bd_la (fun f => bd_lo (fun f k => bd_cg f fN fM vb vs cnt k) cnt f 0) 63 fL 1))), (aN, .inl (K.1, 62, .inl fN)), (aM, .inl (K.1, 62, .inl fM))] (va_A [(h0, .inr (1, [.long seed, .ref hM, .ref hO, .int (nI cnt), .ref aS, .ref aA, .ref aB, .ref aN, .ref aM, .ref aL, .int vb, .int vs, .ref aT, .int tl])), (aL, .inl (K.2.1, 62, .inl fL)), (aN, .inl (K.1, 62, .inl fN)), (aM, .inl (K.1, 62, .inl fM))] sz)) 0 0 (va_A [(h0, .inr (1, [.long seed, .ref hM, .ref hO, .int (nI cnt), .ref aS, .ref aA, .ref aB, .ref aN, .ref aM, .ref aL, .int vb, .int vs, .ref aT, .int tl])), (aL, .inl (K.2.1, 62, .inl fL)), (aN, .inl (K.1, 62, .inl fN)), (aM, .inl (K.1, 62, .inl fM))] sz) := by
  refine Met.ofW (cc := prog_1_method_18_code) (maxL := 3) (ret := none) (by decide) rfl ?_
  intro p e s m args below meth c s₁ B hml hv
  obtain ⟨rfl, hsz, hP, hK, hD0, hE⟩ := hv
  have hx := B.exec
  have hb := B.bytes
  have hr := B.returns
  have hts := atoms_spec (ws := w_B_leaveOutAllThatCanGo) B.pre
  have hw : ∀ w ∈ cw, w.before _ s = true := fun w h => hts w (List.mem_cons_of_mem _ h)
  have hown : s.vm.findClass "BuildDrawer" = some m.cls := findClass_of_methodNamed B.named
  have hlocks := B.notSynchronized
  subst hsz
  have hD := hD0.self (sz := s.heap.size)
  generalize hAe : va_A [(h0, .inr (1, [.long seed, .ref hM, .ref hO, .int (nI cnt), .ref aS, .ref aA, .ref aB, .ref aN, .ref aM, .ref aL, .int vb, .int vs, .ref aT, .int tl])), (aL, .inl (K.2.1, 62, .inl fL)), (aN, .inl (K.1, 62, .inl fN)), (aM, .inl (K.1, 62, .inl fM))] s.heap.size = A at hD hE ⊢
  have hA : ∀ q : Nat, s.heap.size ≤ q → A q := fun q h => by rw [← hAe]; exact Or.inr h
  have hS : va_S A s.heap s.heap [] := va_S.rf
  have hl := lv_entry ([.ref h0]) (n := 3) (Nat.le_of_ble_eq_true rfl)
  rw [lg_entry_eq]
  generalize (lg_sl ([.ref h0]) ++ List.replicate (3 - (lg_sl ([.ref h0])).length) Slot.unset).toArray = ls at hl ⊢
  have hl : lv_has ls 3 [(0, .ref h0)] := hl
  refine lv_iconst (v := 1) hx hb d_B_leaveOutAllThatCanGo_0 (by decide) ?_
  refine lv_istore_n (lv' := [(1, .int 1), (0, .ref h0)]) hx hb d_B_leaveOutAllThatCanGo_1 rfl hl (by decide) rfl (fun ls hl => ?_)
  refine lv_iconst (v := 0) hx hb d_B_leaveOutAllThatCanGo_2 (by decide) ?_
  refine lv_istore_n (lv' := [(2, .int 0), (1, .int 1), (0, .ref h0)]) hx hb d_B_leaveOutAllThatCanGo_3 rfl hl (by decide) rfl (fun ls hl => ?_)
  refine cx_loop (pc := 4) (st := []) (fun (z : Nat × (Nat → Int32) × Int32) H locs ls => match z with | (r, f, a) => (r ≤ 63) ∧ (bd_la (fun f => bd_lo (fun f k => bd_cg f fN fM vb vs cnt k) cnt f 0) (63 - r) f a = bd_la (fun f => bd_lo (fun f k => bd_cg f fN fM vb vs cnt k) cnt f 0) 63 fL 1) ∧ va_P D vwCl [(h0, .inr (1, [.long seed, .ref hM, .ref hO, .int (nI cnt), .ref aS, .ref aA, .ref aB, .ref aN, .ref aM, .ref aL, .int vb, .int vs, .ref aT, .int tl])), (aL, .inl (K.2.1, 62, .inl f)), (aN, .inl (K.1, 62, .inl fN)), (aM, .inl (K.1, 62, .inl fM))] H ∧ va_D A [(h0, .inr (1, [.long seed, .ref hM, .ref hO, .int (nI cnt), .ref aS, .ref aA, .ref aB, .ref aN, .ref aM, .ref aL, .int vb, .int vs, .ref aT, .int tl])), (aL, .inl (K.2.1, 62, .inl f)), (aN, .inl (K.1, 62, .inl fN)), (aM, .inl (K.1, 62, .inl fM))] ∧ va_S A s.heap H locs ∧ lv_has ls 3 [(2, .int (nI r)), (1, .int a), (0, .ref h0)]) (fun (z : Nat × (Nat → Int32) × Int32) => match z with | (r, f, a) => 63 - r) (fun z H locs ls hI ih_4 => ?_) (0, fL, 1) ⟨Nat.zero_le _, rfl, hP, hD, hS, lv_sub hl [0, 1, 2] rfl⟩
  obtain ⟨r, f, a⟩ := z
  obtain ⟨hr9, hb9, hP, hD, hS, hl⟩ := hI
  have hP : va_P D vwCl [(h0, .inr (1, [.long seed, .ref hM, .ref hO, .int (nI cnt), .ref aS, .ref aA, .ref aB, .ref aN, .ref aM, .ref aL, .int vb, .int vs, .ref aT, .int tl])), (aL, .inl (K.2.1, 62, .inl f)), (aN, .inl (K.1, 62, .inl fN)), (aM, .inl (K.1, 62, .inl fM))] H := hP
  have hD : va_D A [(h0, .inr (1, [.long seed, .ref hM, .ref hO, .int (nI cnt), .ref aS, .ref aA, .ref aB, .ref aN, .ref aM, .ref aL, .int vb, .int vs, .ref aT, .int tl])), (aL, .inl (K.2.1, 62, .inl f)), (aN, .inl (K.1, 62, .inl fN)), (aM, .inl (K.1, 62, .inl fM))] := hD
  have hl : lv_has ls 3 [(2, .int (nI r)), (1, .int a), (0, .ref h0)] := hl
  refine lv_iload_n hx hb d_B_leaveOutAllThatCanGo_4 rfl (lv_at hl 1 rfl) ?_
  refine lv_if_eq (tgt := 25) hx hb d_B_leaveOutAllThatCanGo_5 (by decide) (fun r_5 => ?_) (fun r_5 => ?_)
  · have c_5 := r_5
    refine lv_aload_n hx hb d_B_leaveOutAllThatCanGo_25 rfl (lv_at hl 2 rfl) ?_
    refine lv_iconst (v := (-1)) hx hb d_B_leaveOutAllThatCanGo_26 (by decide) ?_
    refine va_put (D := D) (ci := 1) (v := .int (-1)) (ty := .int) (C := "BuildDrawer") (T := TB) (N := 14) hx hb hw inB tyB tyB_ok nmB hown hK hP hD hS 0 rfl rfl 13 (by decide) (hw _ k_69) (fun _ h9 => h9) rfl (by decide +kernel) rfl rfl (Nat.le_of_ble_eq_true rfl) d_B_leaveOutAllThatCanGo_27 (fun H locs hP hD hS => ?_)
    have hP : va_P D vwCl [(h0, .inr (1, [.long seed, .ref hM, .ref hO, .int (nI cnt), .ref aS, .ref aA, .ref aB, .ref aN, .ref aM, .ref aL, .int vb, .int vs, .ref aT, .int (-1)])), (aL, .inl (K.2.1, 62, .inl f)), (aN, .inl (K.1, 62, .inl fN)), (aM, .inl (K.1, 62, .inl fM))] H := hP
    have hD : va_D A [(h0, .inr (1, [.long seed, .ref hM, .ref hO, .int (nI cnt), .ref aS, .ref aA, .ref aB, .ref aN, .ref aM, .ref aL, .int vb, .int vs, .ref aT, .int (-1)])), (aL, .inl (K.2.1, 62, .inl f)), (aN, .inl (K.1, 62, .inl fN)), (aM, .inl (K.1, 62, .inl fM))] := hD
    exact cx_vret hx hb hr hlocks hK hP hD hS d_B_leaveOutAllThatCanGo_30 (by rw [← hb9]; first | (rw [show 63 - r = 0 by omega, bd_la]) | (rcases hz : 63 - r with _ | n9 <;> rw [bd_la]; rw [if_pos r_5]))
  · have c_5 := r_5
    refine lv_iload_n hx hb d_B_leaveOutAllThatCanGo_8 rfl (lv_at hl 0 rfl) ?_
    refine lv_bipush (v := 62) hx hb d_B_leaveOutAllThatCanGo_9 (by decide) ?_
    refine lv_icmp_gt (tgt := 25) hx hb d_B_leaveOutAllThatCanGo_11 (by decide) (fun r_11 => ?_) (fun r_11 => ?_)
    · have c_11 := (nI_ltI (a := 62) (b := r) (by omega) (by omega)).mp r_11
      refine lv_aload_n hx hb d_B_leaveOutAllThatCanGo_25 rfl (lv_at hl 2 rfl) ?_
      refine lv_iconst (v := (-1)) hx hb d_B_leaveOutAllThatCanGo_26 (by decide) ?_
      refine va_put (D := D) (ci := 1) (v := .int (-1)) (ty := .int) (C := "BuildDrawer") (T := TB) (N := 14) hx hb hw inB tyB tyB_ok nmB hown hK hP hD hS 0 rfl rfl 13 (by decide) (hw _ k_69) (fun _ h9 => h9) rfl (by decide +kernel) rfl rfl (Nat.le_of_ble_eq_true rfl) d_B_leaveOutAllThatCanGo_27 (fun H locs hP hD hS => ?_)
      have hP : va_P D vwCl [(h0, .inr (1, [.long seed, .ref hM, .ref hO, .int (nI cnt), .ref aS, .ref aA, .ref aB, .ref aN, .ref aM, .ref aL, .int vb, .int vs, .ref aT, .int (-1)])), (aL, .inl (K.2.1, 62, .inl f)), (aN, .inl (K.1, 62, .inl fN)), (aM, .inl (K.1, 62, .inl fM))] H := hP
      have hD : va_D A [(h0, .inr (1, [.long seed, .ref hM, .ref hO, .int (nI cnt), .ref aS, .ref aA, .ref aB, .ref aN, .ref aM, .ref aL, .int vb, .int vs, .ref aT, .int (-1)])), (aL, .inl (K.2.1, 62, .inl f)), (aN, .inl (K.1, 62, .inl fN)), (aM, .inl (K.1, 62, .inl fM))] := hD
      exact cx_vret hx hb hr hlocks hK hP hD hS d_B_leaveOutAllThatCanGo_30 (by rw [← hb9]; first | (rw [show 63 - r = 0 by omega, bd_la]) | (rcases hz : 63 - r with _ | n9 <;> rw [bd_la]; rw [if_pos r_5]))
    · have c_11 := mt (nI_ltI (a := 62) (b := r) (by omega) (by omega)).mpr r_11
      refine lv_aload_n hx hb d_B_leaveOutAllThatCanGo_14 rfl (lv_at hl 2 rfl) ?_
      refine cx_ci (wr := []) (wN := [(h0, .inr (1, [.long seed, .ref hM, .ref hO, .int (nI cnt), .ref aS, .ref aA, .ref aB, .ref aN, .ref aM, .ref aL, .int vb, .int vs, .ref aT, .int tl])), (aL, .inl (K.2.1, 62, .inl ((bd_lo (fun f k => bd_cg f fN fM vb vs cnt k) cnt f 0).1))), (aN, .inl (K.1, 62, .inl fN)), (aM, .inl (K.1, 62, .inl fM))]) (va_runV (As := []) (rest := []) ⟨hx, hb, hml, hown, hw⟩ (c_B_leaveOutFromLastToFirst l G D K H.size h0 seed hM hO cnt aS aA aB aN aM aL vb vs aT tl f fN fM (by omega)) (cwV 0 hw (cx_gV k_266 k_268 ks_B_leaveOutFromLastToFirst k_1 k_269) rfl rfl rfl (by decide +kernel) ⟨Nat.le_of_ble_eq_true rfl, Nat.le_of_ble_eq_true rfl⟩) (cx_preV (q0 := 0) (ci := 1) hK hP hD hS hA hE rfl rfl [0, 1, 2, 3] rfl rfl (by decide)) rfl rfl hl.1 rfl (lv_room (Nat.le_of_ble_eq_true rfl)) d_B_leaveOutAllThatCanGo_15 ⟨Nat.le_of_ble_eq_true rfl, Nat.le_of_ble_eq_true rfl⟩) hP hD hS hA [0, 1, 2, 3] [] rfl rfl (by decide) (by decide) [0, 1, 2, 3] rfl rfl (by decide) (fun H locs hP hD hS => ?_)
      refine lv_istore_n (lv' := [(1, .int ((bd_lo (fun f k => bd_cg f fN fM vb vs cnt k) cnt f 0).2)), (2, .int (nI r)), (0, .ref h0)]) hx hb d_B_leaveOutAllThatCanGo_18 rfl hl (by decide) rfl (fun ls hl => ?_)
      refine lv_iinc (v := nI (r + 1)) (lv' := [(2, .int (nI (r + 1))), (1, .int ((bd_lo (fun f k => bd_cg f fN fM vb vs cnt k) cnt f 0).2)), (0, .ref h0)]) hx hb d_B_leaveOutAllThatCanGo_19 hl (k := 1) rfl (by exact cx_inc r) (by decide) rfl (fun ls hl => ?_)
      refine lv_goto (tgt := 4) hx hb d_B_leaveOutAllThatCanGo_22 (by decide) ?_
      exact ih_4 ((r + 1), ((bd_lo (fun f k => bd_cg f fN fM vb vs cnt k) cnt f 0).1), ((bd_lo (fun f k => bd_cg f fN fM vb vs cnt k) cnt f 0).2)) _ _ _ ⟨(by omega), (by rw [← hb9, show 63 - r = (63 - (r + 1)) + 1 by omega, bd_la, if_neg r_5]), hP, hD, hS, lv_sub hl [0, 1, 2] rfl⟩ (show 63 - (r + 1) < 63 - r by omega)
set_option maxHeartbeats 4000000 in
set_option maxRecDepth 100000 in
theorem c_B_shorter (l : Launch) (G : cx_G) (D : va_G) (K : cx_KT) (sz : Nat) (h0 : Nat) (seed : Int64) (hM : Nat) (hO : Nat) (cnt : Nat) (aS : Nat) (aA : Nat) (aB : Nat) (aN : Nat) (aM : Nat) (aL : Nat) (vb : Int32) (vs : Int32) (aT : Nat) (tl : Int32) (fL : Nat → Int32) (fN : Nat → Int32) (fM : Nat → Int32) (hcnt : cnt ≤ 62) : Met l y_B_shorter w_B_shorter ({ frames := 4, cells := 0, slots := 0, locals := 89 }) (cx_Pc G D (cx_ty K) [(h0, .inr (1, [.long seed, .ref hM, .ref hO, .int (nI cnt), .ref aS, .ref aA, .ref aB, .ref aN, .ref aM, .ref aL, .int vb, .int vs, .ref aT, .int tl])), (aL, .inl (K.2.1, 62, .inl fL)), (aN, .inl (K.1, 62, .inl fN)), (aM, .inl (K.1, 62, .inl fM))] sz [.ref h0]) (cx_Qi (nI (bd_cl (bd_sh fL fN fM vb vs cnt) cnt)) D (cx_ty K) [(h0, .inr (1, [.long seed, .ref hM, .ref hO, .int (nI cnt), .ref aS, .ref aA, .ref aB, .ref aN, .ref aM, .ref aL, .int vb, .int vs, .ref aT, .int (-1)])), (aL, .inl (K.2.1, 62, .inl (bd_sh fL fN fM vb vs cnt))), (aN, .inl (K.1, 62, .inl fN)), (aM, .inl (K.1, 62, .inl fM))] (va_A [(h0, .inr (1, [.long seed, .ref hM, .ref hO, .int (nI cnt), .ref aS, .ref aA, .ref aB, .ref aN, .ref aM, .ref aL, .int vb, .int vs, .ref aT, .int tl])), (aL, .inl (K.2.1, 62, .inl fL)), (aN, .inl (K.1, 62, .inl fN)), (aM, .inl (K.1, 62, .inl fM))] sz)) 0 0 (va_A [(h0, .inr (1, [.long seed, .ref hM, .ref hO, .int (nI cnt), .ref aS, .ref aA, .ref aB, .ref aN, .ref aM, .ref aL, .int vb, .int vs, .ref aT, .int tl])), (aL, .inl (K.2.1, 62, .inl fL)), (aN, .inl (K.1, 62, .inl fN)), (aM, .inl (K.1, 62, .inl fM))] sz) := by
  refine Met.ofW (cc := prog_1_method_6_code) (maxL := 1) (ret := (some .int)) (by decide) rfl ?_
  intro p e s m args below meth c s₁ B hml hv
  obtain ⟨rfl, hsz, hP, hK, hD0, hE⟩ := hv
  have hx := B.exec
  have hb := B.bytes
  have hr := B.returns
  have hts := atoms_spec (ws := w_B_shorter) B.pre
  have hw : ∀ w ∈ cw, w.before _ s = true := fun w h => hts w (List.mem_cons_of_mem _ h)
  have hown : s.vm.findClass "BuildDrawer" = some m.cls := findClass_of_methodNamed B.named
  have hlocks := B.notSynchronized
  subst hsz
  have hD := hD0.self (sz := s.heap.size)
  generalize hAe : va_A [(h0, .inr (1, [.long seed, .ref hM, .ref hO, .int (nI cnt), .ref aS, .ref aA, .ref aB, .ref aN, .ref aM, .ref aL, .int vb, .int vs, .ref aT, .int tl])), (aL, .inl (K.2.1, 62, .inl fL)), (aN, .inl (K.1, 62, .inl fN)), (aM, .inl (K.1, 62, .inl fM))] s.heap.size = A at hD hE ⊢
  have hA : ∀ q : Nat, s.heap.size ≤ q → A q := fun q h => by rw [← hAe]; exact Or.inr h
  have hS : va_S A s.heap s.heap [] := va_S.rf
  have hl := lv_entry ([.ref h0]) (n := 1) (Nat.le_of_ble_eq_true rfl)
  rw [lg_entry_eq]
  generalize (lg_sl ([.ref h0]) ++ List.replicate (1 - (lg_sl ([.ref h0])).length) Slot.unset).toArray = ls at hl ⊢
  have hl : lv_has ls 1 [(0, .ref h0)] := hl
  refine lv_aload_n hx hb d_B_shorter_0 rfl (lv_at hl 0 rfl) ?_
  refine lv_aload_n hx hb d_B_shorter_1 rfl (lv_at hl 0 rfl) ?_
  refine cx_ci (wr := [(aN, .inl (K.1, 62, .inl fN))]) (wN := [(h0, .inr (1, [.long seed, .ref hM, .ref hO, .int (nI cnt), .ref aS, .ref aA, .ref aB, .ref aN, .ref aM, .ref aL, .int vb, .int vs, .ref aT, .int tl])), (aL, .inl (K.2.1, 62, .inl fL)), (aN, .inl (K.1, 62, .inl fN)), (aM, .inl (K.1, 62, .inl fM))]) (va_runV (As := []) (rest := [.ref h0]) ⟨hx, hb, hml, hown, hw⟩ (c_B_marksLeft l G D K s.heap.size h0 seed hM hO cnt aS aA aB aN aM aL vb vs aT tl fL fM (by omega)) (cwV 0 hw (cx_gV k_254 k_256 ks_B_marksLeft k_1 k_257) rfl rfl rfl (by decide +kernel) ⟨Nat.le_of_ble_eq_true rfl, Nat.le_of_ble_eq_true rfl⟩) (cx_preV (q0 := 0) (ci := 1) hK hP hD hS hA hE rfl rfl [0, 1, 3] rfl rfl (by decide)) rfl rfl hl.1 rfl (lv_room (Nat.le_of_ble_eq_true rfl)) d_B_shorter_2 ⟨Nat.le_of_ble_eq_true rfl, Nat.le_of_ble_eq_true rfl⟩) hP hD hS hA [0, 1, 3] [2] rfl rfl (by decide) (by decide) [1, 2, 0, 3] rfl rfl (by decide) (fun H locs hP hD hS => ?_)
  refine cx_ci (wr := [(aL, .inl (K.2.1, 62, .inl fL)), (aN, .inl (K.1, 62, .inl fN)), (aM, .inl (K.1, 62, .inl fM))]) (wN := [(h0, .inr (1, [.long seed, .ref hM, .ref hO, .int (nI cnt), .ref aS, .ref aA, .ref aB, .ref aN, .ref aM, .ref aL, .int vb, .int vs, .ref aT, .int tl])), (aL, .inl (K.2.1, 62, .inl fL)), (aN, .inl (K.1, 62, .inl fN)), (aM, .inl (K.1, 62, .inl fM))]) (va_runV (As := [.int (bd_ml fL fM cnt)]) (rest := []) ⟨hx, hb, hml, hown, hw⟩ (c_B_holdsOf l G D K H.size h0 seed hM hO cnt aS aA aB aN aM aL vb vs aT tl (bd_ml fL fM cnt)) (cwV 1 hw (cx_gV k_258 k_260 ks_B_holdsOf k_1 k_261) rfl rfl rfl (by decide +kernel) ⟨Nat.le_of_ble_eq_true rfl, Nat.le_of_ble_eq_true rfl⟩) (cx_preV (q0 := 0) (ci := 1) hK hP hD hS hA hE rfl rfl [0] rfl rfl (by decide)) rfl rfl hl.1 rfl (lv_room (Nat.le_of_ble_eq_true rfl)) d_B_shorter_5 ⟨Nat.le_of_ble_eq_true rfl, Nat.le_of_ble_eq_true rfl⟩) hP hD hS hA [0] [1, 2, 3] rfl rfl (by decide) (by decide) [3, 0, 1, 2] rfl rfl (by decide) (fun H locs hP hD hS => ?_)
  refine lv_if_eq (tgt := 18) hx hb d_B_shorter_8 (by decide) (fun r_8 => ?_) (fun r_8 => ?_)
  · have c_8 := r_8
    refine lv_aload_n hx hb d_B_shorter_18 rfl (lv_at hl 0 rfl) ?_
    refine cx_cv (wr := [(aN, .inl (K.1, 62, .inl fN)), (aM, .inl (K.1, 62, .inl fM))]) (wN := [(h0, .inr (1, [.long seed, .ref hM, .ref hO, .int (nI cnt), .ref aS, .ref aA, .ref aB, .ref aN, .ref aM, .ref aL, .int vb, .int vs, .ref aT, .int (-1)])), (aL, .inl (K.2.1, 62, .inl (bd_all cnt fL))), (aN, .inl (K.1, 62, .inl fN)), (aM, .inl (K.1, 62, .inl fM))]) (va_runV (As := []) (rest := []) ⟨hx, hb, hml, hown, hw⟩ (c_B_takeAllBack l G D K H.size h0 seed hM hO cnt aS aA aB aN aM aL vb vs aT tl fL (by omega)) (cwV 0 hw (cx_gV k_145 k_147 ks_B_takeAllBack k_1 k_148) rfl rfl rfl (by decide +kernel) ⟨Nat.le_of_ble_eq_true rfl, Nat.le_of_ble_eq_true rfl⟩) (cx_preV (q0 := 0) (ci := 1) hK hP hD hS hA hE rfl rfl [0, 1] rfl rfl (by decide)) rfl rfl hl.1 rfl (lv_room (Nat.le_of_ble_eq_true rfl)) d_B_shorter_19 ⟨Nat.le_of_ble_eq_true rfl, Nat.le_of_ble_eq_true rfl⟩) hP hD hS hA [0, 1] [2, 3] rfl rfl (by decide) (by decide) [2, 3, 0, 1] rfl rfl (by decide) (fun H locs hP hD hS => ?_)
    refine lv_aload_n hx hb d_B_shorter_22 rfl (lv_at hl 0 rfl) ?_
    refine cx_ci (wr := [(aN, .inl (K.1, 62, .inl fN)), (aM, .inl (K.1, 62, .inl fM))]) (wN := [(h0, .inr (1, [.long seed, .ref hM, .ref hO, .int (nI cnt), .ref aS, .ref aA, .ref aB, .ref aN, .ref aM, .ref aL, .int vb, .int vs, .ref aT, .int (-1)])), (aL, .inl (K.2.1, 62, .inl (bd_all cnt fL))), (aN, .inl (K.1, 62, .inl fN)), (aM, .inl (K.1, 62, .inl fM))]) (va_runV (As := []) (rest := []) ⟨hx, hb, hml, hown, hw⟩ (c_B_countLeft l G D K H.size h0 seed hM hO cnt aS aA aB aN aM aL vb vs aT (-1) (bd_all cnt fL) (by omega)) (cwV 0 hw (cx_gV k_274 k_276 ks_B_countLeft k_1 k_277) rfl rfl rfl (by decide +kernel) ⟨Nat.le_of_ble_eq_true rfl, Nat.le_of_ble_eq_true rfl⟩) (cx_preV (q0 := 0) (ci := 1) hK hP hD hS hA hE rfl rfl [0, 1] rfl rfl (by decide)) rfl rfl hl.1 rfl (lv_room (Nat.le_of_ble_eq_true rfl)) d_B_shorter_23 ⟨Nat.le_of_ble_eq_true rfl, Nat.le_of_ble_eq_true rfl⟩) hP hD hS hA [0, 1] [2, 3] rfl rfl (by decide) (by decide) [2, 3, 0, 1] rfl rfl (by decide) (fun H locs hP hD hS => ?_)
    exact cx_iret hx hb hr hlocks hK hP hD hS d_B_shorter_26 (by rw [bd_sh, if_pos r_8]) (by rw [bd_sh, if_pos r_8])
  · have c_8 := r_8
    refine lv_aload_n hx hb d_B_shorter_11 rfl (lv_at hl 0 rfl) ?_
    refine cx_cv (wr := []) (wN := [(h0, .inr (1, [.long seed, .ref hM, .ref hO, .int (nI cnt), .ref aS, .ref aA, .ref aB, .ref aN, .ref aM, .ref aL, .int vb, .int vs, .ref aT, .int (-1)])), (aL, .inl (K.2.1, 62, .inl (bd_la (fun f => bd_lo (fun f k => bd_cg f fN fM vb vs cnt k) cnt f 0) 63 fL 1))), (aN, .inl (K.1, 62, .inl fN)), (aM, .inl (K.1, 62, .inl fM))]) (va_runV (As := []) (rest := []) ⟨hx, hb, hml, hown, hw⟩ (c_B_leaveOutAllThatCanGo l G D K H.size h0 seed hM hO cnt aS aA aB aN aM aL vb vs aT tl fL fN fM (by omega)) (cwV 0 hw (cx_gV k_262 k_264 ks_B_leaveOutAllThatCanGo k_1 k_265) rfl rfl rfl (by decide +kernel) ⟨Nat.le_of_ble_eq_true rfl, Nat.le_of_ble_eq_true rfl⟩) (cx_preV (q0 := 0) (ci := 1) hK hP hD hS hA hE rfl rfl [0, 1, 2, 3] rfl rfl (by decide)) rfl rfl hl.1 rfl (lv_room (Nat.le_of_ble_eq_true rfl)) d_B_shorter_12 ⟨Nat.le_of_ble_eq_true rfl, Nat.le_of_ble_eq_true rfl⟩) hP hD hS hA [0, 1, 2, 3] [] rfl rfl (by decide) (by decide) [0, 1, 2, 3] rfl rfl (by decide) (fun H locs hP hD hS => ?_)
    refine lv_goto (tgt := 22) hx hb d_B_shorter_15 (by decide) ?_
    refine lv_aload_n hx hb d_B_shorter_22 rfl (lv_at hl 0 rfl) ?_
    refine cx_ci (wr := [(aN, .inl (K.1, 62, .inl fN)), (aM, .inl (K.1, 62, .inl fM))]) (wN := [(h0, .inr (1, [.long seed, .ref hM, .ref hO, .int (nI cnt), .ref aS, .ref aA, .ref aB, .ref aN, .ref aM, .ref aL, .int vb, .int vs, .ref aT, .int (-1)])), (aL, .inl (K.2.1, 62, .inl (bd_la (fun f => bd_lo (fun f k => bd_cg f fN fM vb vs cnt k) cnt f 0) 63 fL 1))), (aN, .inl (K.1, 62, .inl fN)), (aM, .inl (K.1, 62, .inl fM))]) (va_runV (As := []) (rest := []) ⟨hx, hb, hml, hown, hw⟩ (c_B_countLeft l G D K H.size h0 seed hM hO cnt aS aA aB aN aM aL vb vs aT (-1) (bd_la (fun f => bd_lo (fun f k => bd_cg f fN fM vb vs cnt k) cnt f 0) 63 fL 1) (by omega)) (cwV 0 hw (cx_gV k_274 k_276 ks_B_countLeft k_1 k_277) rfl rfl rfl (by decide +kernel) ⟨Nat.le_of_ble_eq_true rfl, Nat.le_of_ble_eq_true rfl⟩) (cx_preV (q0 := 0) (ci := 1) hK hP hD hS hA hE rfl rfl [0, 1] rfl rfl (by decide)) rfl rfl hl.1 rfl (lv_room (Nat.le_of_ble_eq_true rfl)) d_B_shorter_23 ⟨Nat.le_of_ble_eq_true rfl, Nat.le_of_ble_eq_true rfl⟩) hP hD hS hA [0, 1] [2, 3] rfl rfl (by decide) (by decide) [2, 3, 0, 1] rfl rfl (by decide) (fun H locs hP hD hS => ?_)
    exact cx_iret hx hb hr hlocks hK hP hD hS d_B_shorter_26 (by rw [bd_sh, if_neg r_8]) (by rw [bd_sh, if_neg r_8])
