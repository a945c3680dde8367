def bd_can (k z : Int32) : Int32 := if k < 0 then 0 else if 8 ≤ k then 0 else if z < 0 then 0 else if 60 < z then 0 else 1
def bd_ip (cnt : Nat) (i : Int32) : Int32 := if i < 0 then 0 else if nI cnt ≤ i then 0 else if 62 ≤ i then 0 else 1
/-- the first n of a row are v's, the others stay -/
def bd_fil (g : Nat → Int32) (n : Nat) (f : Nat → Int32) : Nat → Int32 := fun j => if j < n then g j else f j
theorem bd_fil0 (g f : Nat → Int32) : bd_fil g 0 f = f := by funext j; simp [bd_fil]
theorem bd_filS (g f : Nat → Int32) (n : Nat) {x : Int32} (hx : x = g n) : upd (bd_fil g n f) n x = bd_fil g (n + 1) f := by
  funext j
  by_cases h : j = n
  · subst h; rw [pk_us]; simp [bd_fil, hx]
  · rw [pk_un h]
    by_cases h2 : j < n
    · simp [bd_fil, h2, Nat.lt_succ_of_lt h2]
    · have h3 : ¬ j < n + 1 := by omega
      simp [bd_fil, h2, h3]
def bd_all (n : Nat) (f : Nat → Int32) : Nat → Int32 := bd_fil (fun _ => 1) n f
def bd_cl (f : Nat → Int32) : Nat → Nat
  | 0 => 0
  | n + 1 => if f n = 0 then bd_cl f n else bd_cl f n + 1
theorem bd_cl_le (f : Nat → Int32) (n : Nat) : bd_cl f n ≤ n := by
  induction n with
  | zero => exact Nat.le_refl _
  | succ n ih => rw [bd_cl]; split <;> omega
def bd_ml (f g : Nat → Int32) : Nat → Int32
  | 0 => 0
  | n + 1 => if f n = 0 then bd_ml f g n else bd_ml f g n ||| g n
def bd_cs (f s b : Nat → Int32) : Nat → Int32
  | 0 => 255
  | n + 1 => if f n = 0 then bd_cs f s b n else if s n = 2 then bd_cs f s b n &&& b n else bd_cs f s b n
def bd_ho (vb vs t : Int32) : Int32 := if (if vb &&& (t ^^^ (-1)) = 0 then (1 : Int32) else 0) = vs then 1 else 0
/-- some part of the first n, left and another, needs k -/
def bd_nx (f nd : Nat → Int32) (k : Nat) : Nat → Bool
  | 0 => false
  | n + 1 => bd_nx f nd k n || (decide (n ≠ k) && (decide (f n ≠ 0) && decide (nd n = nI k)))
def bd_wo (f g : Nat → Int32) (k : Nat) : Nat → Int32
  | 0 => 0
  | n + 1 => if n = k then bd_wo f g k n else if f n = 0 then bd_wo f g k n else bd_wo f g k n ||| g n
def bd_cg (f nd g : Nat → Int32) (vb vs : Int32) (cnt k : Nat) : Int32 := if f k = 0 then 0 else if bd_nx f nd k cnt = true then 0 else bd_ho vb vs (bd_wo f g k cnt)
theorem bd_nx_mono {f nd : Nat → Int32} {k n m : Nat} (h : bd_nx f nd k n = true) (hnm : n ≤ m) : bd_nx f nd k m = true := by
  induction m with
  | zero => rw [Nat.le_zero.mp hnm] at h; exact h
  | succ m ih =>
    by_cases h2 : n ≤ m
    · rw [bd_nx, ih h2]; rfl
    · have : n = m + 1 := by omega
      rw [← this]; exact h
theorem bd_nx_hit {f nd : Nat → Int32} {k n : Nat} (h1 : n ≠ k) (h2 : ¬ f n = 0) (h3 : nd n = nI k) : bd_nx f nd k (n + 1) = true := by simp [bd_nx, h1, h2, h3]
theorem bd_nx_miss {f nd : Nat → Int32} {k n : Nat} (h : bd_nx f nd k n = false) (h2 : n = k ∨ f n = 0 ∨ ¬ nd n = nI k) : bd_nx f nd k (n + 1) = false := by
  rw [bd_nx, h]
  rcases h2 with h2 | h2 | h2 <;> simp [h2]
theorem bd_ip_in {cnt k : Nat} (hc : cnt ≤ 62) (h : k < cnt) : bd_ip cnt (nI k) = 1 := by
  rw [bd_ip, if_neg (nI_pos (by omega)), if_neg (nI_ge h (by omega)), if_neg (show ¬ (62 : Int32) ≤ nI k from nI_ge (b := 62) (by omega) (by omega))]
theorem bd_ip_of {cnt : Nat} {i : Int32} (hc : cnt ≤ 62) (h : ¬ bd_ip cnt i = 0) : ∃ k, k < cnt ∧ i = nI k := by
  by_cases h1 : i < 0
  · exact absurd (by rw [bd_ip, if_pos h1]) h
  · by_cases h2 : nI cnt ≤ i
    · exact absurd (by rw [bd_ip, if_neg h1, if_pos h2]) h
    · rcases pk_ix i (n := cnt) (by omega) with h3 | h3 | h3
      · exact absurd h3 h1
      · exact absurd h3 h2
      · exact h3
theorem bd_z1 : narrow .boolean (.int 1) = .int 1 := rfl
theorem bd_dn_lt {n : Nat} (h : n ≤ 62) : nI n - 1 < 0 ↔ n = 0 := by
  cases n with
  | zero => exact ⟨fun _ => rfl, fun _ => by decide⟩
  | succ n => rw [nI_pred]; exact ⟨fun h2 => absurd h2 (nI_pos (by omega)), fun h2 => absurd h2 (Nat.succ_ne_zero n)⟩
theorem cx_dec (n : Nat) : nI n + Int32.ofInt (-1) = nI n - 1 := by
  rw [Int32.sub_eq_add_neg]; rfl
theorem bd_01 {x : Int32} (h : x = 0 ∨ x = 1) : narrow .boolean (.int x) = .int x ∧ fits .boolean (.int x) = true := by
  rcases h with h | h <;> subst h <;> exact ⟨rfl, rfl⟩
theorem bd_ho_01 (vb vs t : Int32) : bd_ho vb vs t = 0 ∨ bd_ho vb vs t = 1 := by
  unfold bd_ho
  by_cases h : (if vb &&& (t ^^^ (-1)) = 0 then (1 : Int32) else 0) = vs
  · rw [if_pos h]; exact Or.inr rfl
  · rw [if_neg h]; exact Or.inl rfl
theorem bd_cg_01 (f nd g : Nat → Int32) (vb vs : Int32) (cnt k : Nat) : bd_cg f nd g vb vs cnt k = 0 ∨ bd_cg f nd g vb vs cnt k = 1 := by
  unfold bd_cg
  split
  · exact Or.inl rfl
  · split
    · exact Or.inl rfl
    · exact bd_ho_01 _ _ _
set_option maxHeartbeats 4000000 in
set_option maxRecDepth 100000 in
theorem c_B_canBeDrawn (l : Launch) (G : cx_G) (D : va_G) (K : cx_KT) (sz : Nat) (k : Int32) (z : Int32)  : Met l y_B_canBeDrawn w_B_canBeDrawn ({ frames := 0, cells := 0, slots := 0, locals := 0 }) (cx_Pc G D (cx_ty K) [] sz [.int k, .int z]) (cx_Qi (bd_can k z) D (cx_ty K) [] (va_A [] sz)) 0 0 (va_A [] sz) := by
  refine Met.ofW (cc := prog_1_method_10_code) (maxL := 2) (ret := (some .boolean)) (by decide) rfl ?_
  intro p e s m args below meth c s₁ B hml hv
  obtain ⟨rfl, hsz, hP, hK, hD0, hE⟩ := hv
  have hx := B.exec
  have hb := B.bytes
  have hr := B.returns
  have hts := atoms_spec (ws := w_B_canBeDrawn) B.pre
  have hw : ∀ w ∈ cw, w.before _ s = true := fun w h => hts w (List.mem_cons_of_mem _ h)
  have hown : s.vm.findClass "BuildDrawer" = some m.cls := findClass_of_methodNamed B.named
  have hlocks := B.notSynchronized
  subst hsz
  have hD := hD0.self (sz := s.heap.size)
  generalize hAe : va_A [] s.heap.size = A at hD hE ⊢
  have hA : ∀ q : Nat, s.heap.size ≤ q → A q := fun q h => by rw [← hAe]; exact Or.inr h
  have hS : va_S A s.heap s.heap [] := va_S.rf
  have hl := lv_entry ([.int k, .int z]) (n := 2) (Nat.le_of_ble_eq_true rfl)
  rw [lg_entry_eq]
  generalize (lg_sl ([.int k, .int z]) ++ List.replicate (2 - (lg_sl ([.int k, .int z])).length) Slot.unset).toArray = ls at hl ⊢
  have hl : lv_has ls 2 [(0, .int k), (1, .int z)] := hl
  refine lv_iload_n hx hb d_B_canBeDrawn_0 rfl (lv_at hl 0 rfl) ?_
  refine lv_if_lt (tgt := 24) hx hb d_B_canBeDrawn_1 (by decide) (fun r_1 => ?_) (fun r_1 => ?_)
  · have c_1 := r_1
    refine lv_iconst (v := 0) hx hb d_B_canBeDrawn_24 (by decide) ?_
    exact cx_zret hx hb hr hlocks hK hP hD hS d_B_canBeDrawn_25 (rfl) (by simp only [bd_can, if_pos r_1]) (rfl)
  · have c_1 := r_1
    refine lv_iload_n hx hb d_B_canBeDrawn_4 rfl (lv_at hl 0 rfl) ?_
    refine lv_bipush (v := 8) hx hb d_B_canBeDrawn_5 (by decide) ?_
    refine lv_icmp_ge (tgt := 24) hx hb d_B_canBeDrawn_7 (by decide) (fun r_7 => ?_) (fun r_7 => ?_)
    · have c_7 := r_7
      refine lv_iconst (v := 0) hx hb d_B_canBeDrawn_24 (by decide) ?_
      exact cx_zret hx hb hr hlocks hK hP hD hS d_B_canBeDrawn_25 (rfl) (by simp only [bd_can, if_neg r_1, if_pos r_7]) (rfl)
    · have c_7 := r_7
      refine lv_iload_n hx hb d_B_canBeDrawn_10 rfl (lv_at hl 1 rfl) ?_
      refine lv_if_lt (tgt := 24) hx hb d_B_canBeDrawn_11 (by decide) (fun r_11 => ?_) (fun r_11 => ?_)
      · have c_11 := r_11
        refine lv_iconst (v := 0) hx hb d_B_canBeDrawn_24 (by decide) ?_
        exact cx_zret hx hb hr hlocks hK hP hD hS d_B_canBeDrawn_25 (rfl) (by simp only [bd_can, if_neg r_1, if_neg r_7, if_pos r_11]) (rfl)
      · have c_11 := r_11
        refine lv_iload_n hx hb d_B_canBeDrawn_14 rfl (lv_at hl 1 rfl) ?_
        refine lv_bipush (v := 60) hx hb d_B_canBeDrawn_15 (by decide) ?_
        refine lv_icmp_gt (tgt := 24) hx hb d_B_canBeDrawn_17 (by decide) (fun r_17 => ?_) (fun r_17 => ?_)
        · have c_17 := r_17
          refine lv_iconst (v := 0) hx hb d_B_canBeDrawn_24 (by decide) ?_
          exact cx_zret hx hb hr hlocks hK hP hD hS d_B_canBeDrawn_25 (rfl) (by simp only [bd_can, if_neg r_1, if_neg r_7, if_neg r_11, if_pos r_17]) (rfl)
        · have c_17 := r_17
          refine lv_iconst (v := 1) hx hb d_B_canBeDrawn_20 (by decide) ?_
          refine lv_goto (tgt := 25) hx hb d_B_canBeDrawn_21 (by decide) ?_
          exact cx_zret hx hb hr hlocks hK hP hD hS d_B_canBeDrawn_25 (rfl) (by simp only [bd_can, if_neg r_1, if_neg r_7, if_neg r_11, if_neg r_17]) (rfl)
set_option maxHeartbeats 4000000 in
set_option maxRecDepth 100000 in
theorem c_B_isPart (l : Launch) (G : cx_G) (D : va_G) (K : cx_KT) (sz : Nat) (h0 : Nat) (seed : Int64) (hM : Nat) (hO : Nat) (cnt : Nat) (aS : Nat) (aA : Nat) (aB : Nat) (aN : Nat) (aM : Nat) (aL : Nat) (vb : Int32) (vs : Int32) (aT : Nat) (tl : Int32) (i : Int32)  : Met l y_B_isPart w_B_isPart ({ frames := 0, cells := 0, slots := 0, locals := 0 }) (cx_Pc G D (cx_ty K) [(h0, .inr (1, [.long seed, .ref hM, .ref hO, .int (nI cnt), .ref aS, .ref aA, .ref aB, .ref aN, .ref aM, .ref aL, .int vb, .int vs, .ref aT, .int tl]))] sz [.ref h0, .int i]) (cx_Qi (bd_ip cnt i) D (cx_ty K) [(h0, .inr (1, [.long seed, .ref hM, .ref hO, .int (nI cnt), .ref aS, .ref aA, .ref aB, .ref aN, .ref aM, .ref aL, .int vb, .int vs, .ref aT, .int tl]))] (va_A [(h0, .inr (1, [.long seed, .ref hM, .ref hO, .int (nI cnt), .ref aS, .ref aA, .ref aB, .ref aN, .ref aM, .ref aL, .int vb, .int vs, .ref aT, .int tl]))] sz)) 0 0 (va_A [(h0, .inr (1, [.long seed, .ref hM, .ref hO, .int (nI cnt), .ref aS, .ref aA, .ref aB, .ref aN, .ref aM, .ref aL, .int vb, .int vs, .ref aT, .int tl]))] sz) := by
  refine Met.ofW (cc := prog_1_method_11_code) (maxL := 2) (ret := (some .boolean)) (by decide) rfl ?_
  intro p e s m args below meth c s₁ B hml hv
  obtain ⟨rfl, hsz, hP, hK, hD0, hE⟩ := hv
  have hx := B.exec
  have hb := B.bytes
  have hr := B.returns
  have hts := atoms_spec (ws := w_B_isPart) B.pre
  have hw : ∀ w ∈ cw, w.before _ s = true := fun w h => hts w (List.mem_cons_of_mem _ h)
  have hown : s.vm.findClass "BuildDrawer" = some m.cls := findClass_of_methodNamed B.named
  have hlocks := B.notSynchronized
  subst hsz
  have hD := hD0.self (sz := s.heap.size)
  generalize hAe : va_A [(h0, .inr (1, [.long seed, .ref hM, .ref hO, .int (nI cnt), .ref aS, .ref aA, .ref aB, .ref aN, .ref aM, .ref aL, .int vb, .int vs, .ref aT, .int tl]))] s.heap.size = A at hD hE ⊢
  have hA : ∀ q : Nat, s.heap.size ≤ q → A q := fun q h => by rw [← hAe]; exact Or.inr h
  have hS : va_S A s.heap s.heap [] := va_S.rf
  have hl := lv_entry ([.ref h0, .int i]) (n := 2) (Nat.le_of_ble_eq_true rfl)
  rw [lg_entry_eq]
  generalize (lg_sl ([.ref h0, .int i]) ++ List.replicate (2 - (lg_sl ([.ref h0, .int i])).length) Slot.unset).toArray = ls at hl ⊢
  have hl : lv_has ls 2 [(0, .ref h0), (1, .int i)] := hl
  refine lv_iload_n hx hb d_B_isPart_0 rfl (lv_at hl 1 rfl) ?_
  refine lv_if_lt (tgt := 22) hx hb d_B_isPart_1 (by decide) (fun r_1 => ?_) (fun r_1 => ?_)
  · have c_1 := r_1
    refine lv_iconst (v := 0) hx hb d_B_isPart_22 (by decide) ?_
    exact cx_zret hx hb hr hlocks hK hP hD hS d_B_isPart_23 (rfl) (by simp only [bd_ip, if_pos r_1]) (rfl)
  · have c_1 := r_1
    refine lv_iload_n hx hb d_B_isPart_4 rfl (lv_at hl 1 rfl) ?_
    refine lv_aload_n hx hb d_B_isPart_5 rfl (lv_at hl 0 rfl) ?_
    refine va_get (D := D) (ci := 1) (v := .int (nI cnt)) (C := "BuildDrawer") (T := TB) (N := 14) hx hb hw inB hown hK hP 0 rfl rfl 3 (by decide) (hw _ k_59) (fun _ h9 => h9) rfl d_B_isPart_6 ?_
    refine lv_icmp_ge (tgt := 22) hx hb d_B_isPart_9 (by decide) (fun r_9 => ?_) (fun r_9 => ?_)
    · have c_9 := r_9
      refine lv_iconst (v := 0) hx hb d_B_isPart_22 (by decide) ?_
      exact cx_zret hx hb hr hlocks hK hP hD hS d_B_isPart_23 (rfl) (by simp only [bd_ip, if_neg r_1, if_pos r_9]) (rfl)
    · have c_9 := r_9
      refine lv_iload_n hx hb d_B_isPart_12 rfl (lv_at hl 1 rfl) ?_
      refine lv_bipush (v := 62) hx hb d_B_isPart_13 (by decide) ?_
      refine lv_icmp_ge (tgt := 22) hx hb d_B_isPart_15 (by decide) (fun r_15 => ?_) (fun r_15 => ?_)
      · have c_15 := r_15
        refine lv_iconst (v := 0) hx hb d_B_isPart_22 (by decide) ?_
        exact cx_zret hx hb hr hlocks hK hP hD hS d_B_isPart_23 (rfl) (by simp only [bd_ip, if_neg r_1, if_neg r_9, if_pos r_15]) (rfl)
      · have c_15 := r_15
        refine lv_iconst (v := 1) hx hb d_B_isPart_18 (by decide) ?_
        refine lv_goto (tgt := 23) hx hb d_B_isPart_19 (by decide) ?_
        exact cx_zret hx hb hr hlocks hK hP hD hS d_B_isPart_23 (rfl) (by simp only [bd_ip, if_neg r_1, if_neg r_9, if_neg r_15]) (rfl)
set_option maxHeartbeats 4000000 in
set_option maxRecDepth 100000 in
theorem c_B_takeAllBack (l : Launch) (G : cx_G) (D : va_G) (K : cx_KT) (sz : Nat) (h0 : Nat) (seed : Int64) (hM : Nat) (hO : Nat) (cnt : Nat) (aS : Nat) (aA : Nat) (aB : Nat) (aN : Nat) (aM : Nat) (aL : Nat) (vb : Int32) (vs : Int32) (aT : Nat) (tl : Int32) (fL : Nat → Int32) (hcnt : cnt ≤ 62) : Met l y_B_takeAllBack w_B_takeAllBack ({ frames := 0, cells := 0, slots := 0, locals := 0 }) (cx_Pc G D (cx_ty K) [(h0, .inr (1, [.long seed, .ref hM, .ref hO, .int (nI cnt), .ref aS, .ref aA, .ref aB, .ref aN, .ref aM, .ref aL, .int vb, .int vs, .ref aT, .int tl])), (aL, .inl (K.2.1, 62, .inl fL))] sz [.ref h0]) (cx_Qv D (cx_ty K) [(h0, .inr (1, [.long seed, .ref hM, .ref hO, .int (nI cnt), .ref aS, .ref aA, .ref aB, .ref aN, .ref aM, .ref aL, .int vb, .int vs, .ref aT, .int (-1)])), (aL, .inl (K.2.1, 62, .inl (bd_all cnt fL)))] (va_A [(h0, .inr (1, [.long seed, .ref hM, .ref hO, .int (nI cnt), .ref aS, .ref aA, .ref aB, .ref aN, .ref aM, .ref aL, .int vb, .int vs, .ref aT, .int tl])), (aL, .inl (K.2.1, 62, .inl fL))] sz)) 0 0 (va_A [(h0, .inr (1, [.long seed, .ref hM, .ref hO, .int (nI cnt), .ref aS, .ref aA, .ref aB, .ref aN, .ref aM, .ref aL, .int vb, .int vs, .ref aT, .int tl])), (aL, .inl (K.2.1, 62, .inl fL))] sz) := by
  refine Met.ofW (cc := prog_1_method_12_code) (maxL := 2) (ret := none) (by decide) rfl ?_
  intro p e s m args below meth c s₁ B hml hv
  obtain ⟨rfl, hsz, hP, hK, hD0, hE⟩ := hv
  have hx := B.exec
  have hb := B.bytes
  have hr := B.returns
  have hts := atoms_spec (ws := w_B_takeAllBack) B.pre
  have hw : ∀ w ∈ cw, w.before _ s = true := fun w h => hts w (List.mem_cons_of_mem _ h)
  have hown : s.vm.findClass "BuildDrawer" = some m.cls := findClass_of_methodNamed B.named
  have hlocks := B.notSynchronized
  subst hsz
  have hD := hD0.self (sz := s.heap.size)
  generalize hAe : va_A [(h0, .inr (1, [.long seed, .ref hM, .ref hO, .int (nI cnt), .ref aS, .ref aA, .ref aB, .ref aN, .ref aM, .ref aL, .int vb, .int vs, .ref aT, .int tl])), (aL, .inl (K.2.1, 62, .inl fL))] s.heap.size = A at hD hE ⊢
  have hA : ∀ q : Nat, s.heap.size ≤ q → A q := fun q h => by rw [← hAe]; exact Or.inr h
  have hS : va_S A s.heap s.heap [] := va_S.rf
  have hl := lv_entry ([.ref h0]) (n := 2) (Nat.le_of_ble_eq_true rfl)
  rw [lg_entry_eq]
  generalize (lg_sl ([.ref h0]) ++ List.replicate (2 - (lg_sl ([.ref h0])).length) Slot.unset).toArray = ls at hl ⊢
  have hl : lv_has ls 2 [(0, .ref h0)] := hl
  refine lv_iconst (v := 0) hx hb d_B_takeAllBack_0 (by decide) ?_
  refine lv_istore_n (lv' := [(1, .int 0), (0, .ref h0)]) hx hb d_B_takeAllBack_1 rfl hl (by decide) rfl (fun ls hl => ?_)
  have hP : va_P D vwCl [(h0, .inr (1, [.long seed, .ref hM, .ref hO, .int (nI cnt), .ref aS, .ref aA, .ref aB, .ref aN, .ref aM, .ref aL, .int vb, .int vs, .ref aT, .int tl])), (aL, .inl (K.2.1, 62, .inl (bd_all 0 fL)))] s.heap := by rw [bd_all, bd_fil0]; exact hP
  have hD : va_D A [(h0, .inr (1, [.long seed, .ref hM, .ref hO, .int (nI cnt), .ref aS, .ref aA, .ref aB, .ref aN, .ref aM, .ref aL, .int vb, .int vs, .ref aT, .int tl])), (aL, .inl (K.2.1, 62, .inl (bd_all 0 fL)))] := by rw [bd_all, bd_fil0]; exact hD
  refine cx_loop (pc := 2) (st := []) (fun (i : Nat) H locs ls => (i ≤ cnt) ∧ va_P D vwCl [(h0, .inr (1, [.long seed, .ref hM, .ref hO, .int (nI cnt), .ref aS, .ref aA, .ref aB, .ref aN, .ref aM, .ref aL, .int vb, .int vs, .ref aT, .int tl])), (aL, .inl (K.2.1, 62, .inl (bd_all i fL)))] H ∧ va_D A [(h0, .inr (1, [.long seed, .ref hM, .ref hO, .int (nI cnt), .ref aS, .ref aA, .ref aB, .ref aN, .ref aM, .ref aL, .int vb, .int vs, .ref aT, .int tl])), (aL, .inl (K.2.1, 62, .inl (bd_all i fL)))] ∧ va_S A s.heap H locs ∧ lv_has ls 2 [(1, .int (nI i)), (0, .ref h0)]) (fun (i : Nat) => cnt - i) (fun z H locs ls hI ih_2 => ?_) 0 ⟨Nat.zero_le _, hP, hD, hS, lv_sub hl [0, 1] rfl⟩
  obtain ⟨i, rfl⟩ : ∃ y, y = z := ⟨_, rfl⟩
  obtain ⟨hi, hP, hD, hS, hl⟩ := hI
  have hP : va_P D vwCl [(h0, .inr (1, [.long seed, .ref hM, .ref hO, .int (nI cnt), .ref aS, .ref aA, .ref aB, .ref aN, .ref aM, .ref aL, .int vb, .int vs, .ref aT, .int tl])), (aL, .inl (K.2.1, 62, .inl (bd_all i fL)))] H := hP
  have hD : va_D A [(h0, .inr (1, [.long seed, .ref hM, .ref hO, .int (nI cnt), .ref aS, .ref aA, .ref aB, .ref aN, .ref aM, .ref aL, .int vb, .int vs, .ref aT, .int tl])), (aL, .inl (K.2.1, 62, .inl (bd_all i fL)))] := hD
  have hl : lv_has ls 2 [(1, .int (nI i)), (0, .ref h0)] := hl
  refine lv_iload_n hx hb d_B_takeAllBack_2 rfl (lv_at hl 0 rfl) ?_
  refine lv_aload_n hx hb d_B_takeAllBack_3 rfl (lv_at hl 1 rfl) ?_
  refine va_get (D := D) (ci := 1) (v := .int (nI cnt)) (C := "BuildDrawer") (T := TB) (N := 14) hx hb hw inB hown hK hP 0 rfl rfl 3 (by decide) (hw _ k_59) (fun _ h9 => h9) rfl d_B_takeAllBack_4 ?_
  refine lv_icmp_ge (tgt := 29) hx hb d_B_takeAllBack_7 (by decide) (fun r_7 => ?_) (fun r_7 => ?_)
  · have c_7 := (nI_leI (a := cnt) (b := i) (by omega) (by omega)).mp r_7
    refine lv_aload_n hx hb d_B_takeAllBack_29 rfl (lv_at hl 1 rfl) ?_
    refine lv_iconst (v := (-1)) hx hb d_B_takeAllBack_30 (by decide) ?_
    refine va_put (D := D) (ci := 1) (v := .int (-1)) (ty := .int) (C := "BuildDrawer") (T := TB) (N := 14) hx hb hw inB tyB tyB_ok nmB hown hK hP hD hS 0 rfl rfl 13 (by decide) (hw _ k_69) (fun _ h9 => h9) rfl (by decide +kernel) rfl rfl (Nat.le_of_ble_eq_true rfl) d_B_takeAllBack_31 (fun H locs hP hD hS => ?_)
    have hP : va_P D vwCl [(h0, .inr (1, [.long seed, .ref hM, .ref hO, .int (nI cnt), .ref aS, .ref aA, .ref aB, .ref aN, .ref aM, .ref aL, .int vb, .int vs, .ref aT, .int (-1)])), (aL, .inl (K.2.1, 62, .inl (bd_all i fL)))] H := hP
    have hD : va_D A [(h0, .inr (1, [.long seed, .ref hM, .ref hO, .int (nI cnt), .ref aS, .ref aA, .ref aB, .ref aN, .ref aM, .ref aL, .int vb, .int vs, .ref aT, .int (-1)])), (aL, .inl (K.2.1, 62, .inl (bd_all i fL)))] := hD
    exact cx_vret hx hb hr hlocks hK hP hD hS d_B_takeAllBack_34 (by rw [show i = cnt by omega])
  · have c_7 := mt (nI_leI (a := cnt) (b := i) (by omega) (by omega)).mpr r_7
    refine lv_iload_n hx hb d_B_takeAllBack_10 rfl (lv_at hl 0 rfl) ?_
    refine lv_bipush (v := 62) hx hb d_B_takeAllBack_11 (by decide) ?_
    refine lv_icmp_ge (tgt := 29) hx hb d_B_takeAllBack_13 (by decide) (fun r_13 => ?_) (fun r_13 => ?_)
    · have c_13 := (nI_leI (a := 62) (b := i) (by omega) (by omega)).mp r_13
      omega
    · have c_13 := mt (nI_leI (a := 62) (b := i) (by omega) (by omega)).mpr r_13
      refine lv_aload_n hx hb d_B_takeAllBack_16 rfl (lv_at hl 1 rfl) ?_
      refine va_get (D := D) (ci := 1) (v := .ref aL) (C := "BuildDrawer") (T := TB) (N := 14) hx hb hw inB hown hK hP 0 rfl rfl 9 (by decide) (hw _ k_65) (fun _ h9 => h9) rfl d_B_takeAllBack_17 ?_
      refine lv_iload_n hx hb d_B_takeAllBack_20 rfl (lv_at hl 0 rfl) ?_
      refine lv_iconst (v := 1) hx hb d_B_takeAllBack_21 (by decide) ?_
      refine va_zast hx hb hK hP hD hS 1 1 rfl rfl (vp_in_nI (n := i) (by omega) (by omega)) d_B_takeAllBack_22 (fun H locs hP hD hS => ?_)
      have e_22 : upd (bd_all i fL) (nI i).toNatClampNeg (vp_nar .boolean 1) = bd_all (i + 1) fL := by rw [nI_clamp (by omega)]; exact bd_filS _ _ _ rfl
      have hP : va_P D vwCl [(h0, .inr (1, [.long seed, .ref hM, .ref hO, .int (nI cnt), .ref aS, .ref aA, .ref aB, .ref aN, .ref aM, .ref aL, .int vb, .int vs, .ref aT, .int tl])), (aL, .inl (K.2.1, 62, .inl (upd (bd_all i fL) (nI i).toNatClampNeg (vp_nar .boolean 1))))] H := hP
      have hD : va_D A [(h0, .inr (1, [.long seed, .ref hM, .ref hO, .int (nI cnt), .ref aS, .ref aA, .ref aB, .ref aN, .ref aM, .ref aL, .int vb, .int vs, .ref aT, .int tl])), (aL, .inl (K.2.1, 62, .inl (upd (bd_all i fL) (nI i).toNatClampNeg (vp_nar .boolean 1))))] := hD
      rw [e_22] at hP hD
      have hP : va_P D vwCl [(h0, .inr (1, [.long seed, .ref hM, .ref hO, .int (nI cnt), .ref aS, .ref aA, .ref aB, .ref aN, .ref aM, .ref aL, .int vb, .int vs, .ref aT, .int tl])), (aL, .inl (K.2.1, 62, .inl (bd_all (i + 1) fL)))] H := hP
      have hD : va_D A [(h0, .inr (1, [.long seed, .ref hM, .ref hO, .int (nI cnt), .ref aS, .ref aA, .ref aB, .ref aN, .ref aM, .ref aL, .int vb, .int vs, .ref aT, .int tl])), (aL, .inl (K.2.1, 62, .inl (bd_all (i + 1) fL)))] := hD
      refine lv_iinc (v := nI (i + 1)) (lv' := [(1, .int (nI (i + 1))), (0, .ref h0)]) hx hb d_B_takeAllBack_23 hl (k := 0) rfl (by exact cx_inc i) (by decide) rfl (fun ls hl => ?_)
      refine lv_goto (tgt := 2) hx hb d_B_takeAllBack_26 (by decide) ?_
      exact ih_2 (i + 1) _ _ _ ⟨(by omega), hP, hD, hS, lv_sub hl [0, 1] rfl⟩ (by omega)
set_option maxHeartbeats 4000000 in
set_option maxRecDepth 100000 in
theorem c_B_countLeft (l : Launch) (G : cx_G) (D : va_G) (K : cx_KT) (sz : Nat) (h0 : Nat) (seed : Int64) (hM : Nat) (hO : Nat) (cnt : Nat) (aS : Nat) (aA : Nat) (aB : Nat) (aN : Nat) (aM : Nat) (aL : Nat) (vb : Int32) (vs : Int32) (aT : Nat) (tl : Int32) (fL : Nat → Int32) (hcnt : cnt ≤ 62) : Met l y_B_countLeft w_B_countLeft ({ frames := 0, cells := 0, slots := 0, locals := 0 }) (cx_Pc G D (cx_ty K) [(h0, .inr (1, [.long seed, .ref hM, .ref hO, .int (nI cnt), .ref aS, .ref aA, .ref aB, .ref aN, .ref aM, .ref aL, .int vb, .int vs, .ref aT, .int tl])), (aL, .inl (K.2.1, 62, .inl fL))] sz [.ref h0]) (cx_Qi (nI (bd_cl fL cnt)) D (cx_ty K) [(h0, .inr (1, [.long seed, .ref hM, .ref hO, .int (nI cnt), .ref aS, .ref aA, .ref aB, .ref aN, .ref aM, .ref aL, .int vb, .int vs, .ref aT, .int tl])), (aL, .inl (K.2.1, 62, .inl fL))] (va_A [(h0, .inr (1, [.long seed, .ref hM, .ref hO, .int (nI cnt), .ref aS, .ref aA, .ref aB, .ref aN, .ref aM, .ref aL, .int vb, .int vs, .ref aT, .int tl])), (aL, .inl (K.2.1, 62, .inl fL))] sz)) 0 0 (va_A [(h0, .inr (1, [.long seed, .ref hM, .ref hO, .int (nI cnt), .ref aS, .ref aA, .ref aB, .ref aN, .ref aM, .ref aL, .int vb, .int vs, .ref aT, .int tl])), (aL, .inl (K.2.1, 62, .inl fL))] sz) := by
  refine Met.ofW (cc := prog_1_method_13_code) (maxL := 3) (ret := (some .int)) (by decide) rfl ?_
  intro p e s m args below meth c s₁ B hml hv
  obtain ⟨rfl, hsz, hP, hK, hD0, hE⟩ := hv
  have hx := B.exec
  have hb := B.bytes
  have hr := B.returns
  have hts := atoms_spec (ws := w_B_countLeft) B.pre
  have hw : ∀ w ∈ cw, w.before _ s = true := fun w h => hts w (List.mem_cons_of_mem _ h)
  have hown : s.vm.findClass "BuildDrawer" = some m.cls := findClass_of_methodNamed B.named
  have hlocks := B.notSynchronized
  subst hsz
  have hD := hD0.self (sz := s.heap.size)
  generalize hAe : va_A [(h0, .inr (1, [.long seed, .ref hM, .ref hO, .int (nI cnt), .ref aS, .ref aA, .ref aB, .ref aN, .ref aM, .ref aL, .int vb, .int vs, .ref aT, .int tl])), (aL, .inl (K.2.1, 62, .inl fL))] s.heap.size = A at hD hE ⊢
  have hA : ∀ q : Nat, s.heap.size ≤ q → A q := fun q h => by rw [← hAe]; exact Or.inr h
  have hS : va_S A s.heap s.heap [] := va_S.rf
  have hl := lv_entry ([.ref h0]) (n := 3) (Nat.le_of_ble_eq_true rfl)
  rw [lg_entry_eq]
  generalize (lg_sl ([.ref h0]) ++ List.replicate (3 - (lg_sl ([.ref h0])).length) Slot.unset).toArray = ls at hl ⊢
  have hl : lv_has ls 3 [(0, .ref h0)] := hl
  refine lv_iconst (v := 0) hx hb d_B_countLeft_0 (by decide) ?_
  refine lv_istore_n (lv' := [(1, .int 0), (0, .ref h0)]) hx hb d_B_countLeft_1 rfl hl (by decide) rfl (fun ls hl => ?_)
  refine lv_iconst (v := 0) hx hb d_B_countLeft_2 (by decide) ?_
  refine lv_istore_n (lv' := [(2, .int 0), (1, .int 0), (0, .ref h0)]) hx hb d_B_countLeft_3 rfl hl (by decide) rfl (fun ls hl => ?_)
  refine cx_loop (pc := 4) (st := []) (fun (i : Nat) H locs ls => (i ≤ cnt) ∧ va_P D vwCl [(h0, .inr (1, [.long seed, .ref hM, .ref hO, .int (nI cnt), .ref aS, .ref aA, .ref aB, .ref aN, .ref aM, .ref aL, .int vb, .int vs, .ref aT, .int tl])), (aL, .inl (K.2.1, 62, .inl fL))] H ∧ va_D A [(h0, .inr (1, [.long seed, .ref hM, .ref hO, .int (nI cnt), .ref aS, .ref aA, .ref aB, .ref aN, .ref aM, .ref aL, .int vb, .int vs, .ref aT, .int tl])), (aL, .inl (K.2.1, 62, .inl fL))] ∧ va_S A s.heap H locs ∧ lv_has ls 3 [(2, .int (nI i)), (1, .int (nI (bd_cl fL i))), (0, .ref h0)]) (fun (i : Nat) => cnt - i) (fun z H locs ls hI ih_4 => ?_) 0 ⟨Nat.zero_le _, hP, hD, hS, lv_sub hl [0, 1, 2] rfl⟩
  obtain ⟨i, rfl⟩ : ∃ y, y = z := ⟨_, rfl⟩
  obtain ⟨hi, hP, hD, hS, hl⟩ := hI
  have hP : va_P D vwCl [(h0, .inr (1, [.long seed, .ref hM, .ref hO, .int (nI cnt), .ref aS, .ref aA, .ref aB, .ref aN, .ref aM, .ref aL, .int vb, .int vs, .ref aT, .int tl])), (aL, .inl (K.2.1, 62, .inl fL))] H := hP
  have hD : va_D A [(h0, .inr (1, [.long seed, .ref hM, .ref hO, .int (nI cnt), .ref aS, .ref aA, .ref aB, .ref aN, .ref aM, .ref aL, .int vb, .int vs, .ref aT, .int tl])), (aL, .inl (K.2.1, 62, .inl fL))] := hD
  have hl : lv_has ls 3 [(2, .int (nI i)), (1, .int (nI (bd_cl fL i))), (0, .ref h0)] := hl
  refine lv_iload_n hx hb d_B_countLeft_4 rfl (lv_at hl 0 rfl) ?_
  refine lv_aload_n hx hb d_B_countLeft_5 rfl (lv_at hl 2 rfl) ?_
  refine va_get (D := D) (ci := 1) (v := .int (nI cnt)) (C := "BuildDrawer") (T := TB) (N := 14) hx hb hw inB hown hK hP 0 rfl rfl 3 (by decide) (hw _ k_59) (fun _ h9 => h9) rfl d_B_countLeft_6 ?_
  refine lv_icmp_ge (tgt := 36) hx hb d_B_countLeft_9 (by decide) (fun r_9 => ?_) (fun r_9 => ?_)
  · have c_9 := (nI_leI (a := cnt) (b := i) (by omega) (by omega)).mp r_9
    refine lv_iload_n hx hb d_B_countLeft_36 rfl (lv_at hl 1 rfl) ?_
    exact cx_iret hx hb hr hlocks hK hP hD hS d_B_countLeft_37 (by rw [show i = cnt by omega]) (rfl)
  · have c_9 := mt (nI_leI (a := cnt) (b := i) (by omega) (by omega)).mpr r_9
    refine lv_iload_n hx hb d_B_countLeft_12 rfl (lv_at hl 0 rfl) ?_
    refine lv_bipush (v := 62) hx hb d_B_countLeft_13 (by decide) ?_
    refine lv_icmp_ge (tgt := 36) hx hb d_B_countLeft_15 (by decide) (fun r_15 => ?_) (fun r_15 => ?_)
    · have c_15 := (nI_leI (a := 62) (b := i) (by omega) (by omega)).mp r_15
      omega
    · have c_15 := mt (nI_leI (a := 62) (b := i) (by omega) (by omega)).mpr r_15
      refine lv_aload_n hx hb d_B_countLeft_18 rfl (lv_at hl 2 rfl) ?_
      refine va_get (D := D) (ci := 1) (v := .ref aL) (C := "BuildDrawer") (T := TB) (N := 14) hx hb hw inB hown hK hP 0 rfl rfl 9 (by decide) (hw _ k_65) (fun _ h9 => h9) rfl d_B_countLeft_19 ?_
      refine lv_iload_n hx hb d_B_countLeft_22 rfl (lv_at hl 0 rfl) ?_
      refine va_zald hx hb hK hP 1 1 rfl rfl (vp_in_nI (n := i) (by omega) (by omega)) d_B_countLeft_23 ?_
      refine cx_ti (y := fL i) (by rw [nI_clamp (by omega)]) ?_
      refine lv_if_eq (tgt := 30) hx hb d_B_countLeft_24 (by decide) (fun r_24 => ?_) (fun r_24 => ?_)
      · have c_24 := r_24
        have e_i : bd_cl fL (i + 1) = bd_cl fL i := by rw [bd_cl, if_pos r_24]
        rw [← e_i] at hl
        refine lv_iinc (v := nI (i + 1)) (lv' := [(2, .int (nI (i + 1))), (1, .int (nI (bd_cl fL (i + 1)))), (0, .ref h0)]) hx hb d_B_countLeft_30 hl (k := 0) rfl (by exact cx_inc i) (by decide) rfl (fun ls hl => ?_)
        refine lv_goto (tgt := 4) hx hb d_B_countLeft_33 (by decide) ?_
        exact ih_4 (i + 1) _ _ _ ⟨(by omega), hP, hD, hS, lv_sub hl [0, 1, 2] rfl⟩ (by omega)
      · have c_24 := r_24
        have e_i : bd_cl fL (i + 1) = bd_cl fL i + 1 := by rw [bd_cl, if_neg r_24]
        refine lv_iinc (v := nI (bd_cl fL i + 1)) (lv' := [(1, .int (nI (bd_cl fL i + 1))), (2, .int (nI i)), (0, .ref h0)]) hx hb d_B_countLeft_27 hl (k := 1) rfl (by exact cx_inc (bd_cl fL i)) (by decide) rfl (fun ls hl => ?_)
        rw [← e_i] at hl
        refine lv_iinc (v := nI (i + 1)) (lv' := [(2, .int (nI (i + 1))), (1, .int (nI (bd_cl fL (i + 1)))), (0, .ref h0)]) hx hb d_B_countLeft_30 hl (k := 1) rfl (by exact cx_inc i) (by decide) rfl (fun ls hl => ?_)
        refine lv_goto (tgt := 4) hx hb d_B_countLeft_33 (by decide) ?_
        exact ih_4 (i + 1) _ _ _ ⟨(by omega), hP, hD, hS, lv_sub hl [0, 1, 2] rfl⟩ (by omega)
set_option maxHeartbeats 4000000 in
set_option maxRecDepth 100000 in
theorem c_B_marksLeft (l : Launch) (G : cx_G) (D : va_G) (K : cx_KT) (sz : Nat) (h0 : Nat) (seed : Int64) (hM : Nat) (hO : Nat) (cnt : Nat) (aS : Nat) (aA : Nat) (aB : Nat) (aN : Nat) (aM : Nat) (aL : Nat) (vb : Int32) (vs : Int32) (aT : Nat) (tl : Int32) (fL : Nat → Int32) (fM : Nat → Int32) (hcnt : cnt ≤ 62) : Met l y_B_marksLeft w_B_marksLeft ({ frames := 0, cells := 0, slots := 0, locals := 0 }) (cx_Pc G D (cx_ty K) [(h0, .inr (1, [.long seed, .ref hM, .ref hO, .int (nI cnt), .ref aS, .ref aA, .ref aB, .ref aN, .ref aM, .ref aL, .int vb, .int vs, .ref aT, .int tl])), (aL, .inl (K.2.1, 62, .inl fL)), (aM, .inl (K.1, 62, .inl fM))] sz [.ref h0]) (cx_Qi (bd_ml fL fM cnt) D (cx_ty K) [(h0, .inr (1, [.long seed, .ref hM, .ref hO, .int (nI cnt), .ref aS, .ref aA, .ref aB, .ref aN, .ref aM, .ref aL, .int vb, .int vs, .ref aT, .int tl])), (aL, .inl (K.2.1, 62, .inl fL)), (aM, .inl (K.1, 62, .inl fM))] (va_A [(h0, .inr (1, [.long seed, .ref hM, .ref hO, .int (nI cnt), .ref aS, .ref aA, .ref aB, .ref aN, .ref aM, .ref aL, .int vb, .int vs, .ref aT, .int tl])), (aL, .inl (K.2.1, 62, .inl fL)), (aM, .inl (K.1, 62, .inl fM))] sz)) 0 0 (va_A [(h0, .inr (1, [.long seed, .ref hM, .ref hO, .int (nI cnt), .ref aS, .ref aA, .ref aB, .ref aN, .ref aM, .ref aL, .int vb, .int vs, .ref aT, .int tl])), (aL, .inl (K.2.1, 62, .inl fL)), (aM, .inl (K.1, 62, .inl fM))] sz) := by
  refine Met.ofW (cc := prog_1_method_14_code) (maxL := 3) (ret := (some .int)) (by decide) rfl ?_
  intro p e s m args below meth c s₁ B hml hv
  obtain ⟨rfl, hsz, hP, hK, hD0, hE⟩ := hv
  have hx := B.exec
  have hb := B.bytes
  have hr := B.returns
  have hts := atoms_spec (ws := w_B_marksLeft) B.pre
  have hw : ∀ w ∈ cw, w.before _ s = true := fun w h => hts w (List.mem_cons_of_mem _ h)
  have hown : s.vm.findClass "BuildDrawer" = some m.cls := findClass_of_methodNamed B.named
  have hlocks := B.notSynchronized
  subst hsz
  have hD := hD0.self (sz := s.heap.size)
  generalize hAe : va_A [(h0, .inr (1, [.long seed, .ref hM, .ref hO, .int (nI cnt), .ref aS, .ref aA, .ref aB, .ref aN, .ref aM, .ref aL, .int vb, .int vs, .ref aT, .int tl])), (aL, .inl (K.2.1, 62, .inl fL)), (aM, .inl (K.1, 62, .inl fM))] s.heap.size = A at hD hE ⊢
  have hA : ∀ q : Nat, s.heap.size ≤ q → A q := fun q h => by rw [← hAe]; exact Or.inr h
  have hS : va_S A s.heap s.heap [] := va_S.rf
  have hl := lv_entry ([.ref h0]) (n := 3) (Nat.le_of_ble_eq_true rfl)
  rw [lg_entry_eq]
  generalize (lg_sl ([.ref h0]) ++ List.replicate (3 - (lg_sl ([.ref h0])).length) Slot.unset).toArray = ls at hl ⊢
  have hl : lv_has ls 3 [(0, .ref h0)] := hl
  refine lv_iconst (v := 0) hx hb d_B_marksLeft_0 (by decide) ?_
  refine lv_istore_n (lv' := [(1, .int 0), (0, .ref h0)]) hx hb d_B_marksLeft_1 rfl hl (by decide) rfl (fun ls hl => ?_)
  refine lv_iconst (v := 0) hx hb d_B_marksLeft_2 (by decide) ?_
  refine lv_istore_n (lv' := [(2, .int 0), (1, .int 0), (0, .ref h0)]) hx hb d_B_marksLeft_3 rfl hl (by decide) rfl (fun ls hl => ?_)
  refine cx_loop (pc := 4) (st := []) (fun (i : Nat) H locs ls => (i ≤ cnt) ∧ va_P D vwCl [(h0, .inr (1, [.long seed, .ref hM, .ref hO, .int (nI cnt), .ref aS, .ref aA, .ref aB, .ref aN, .ref aM, .ref aL, .int vb, .int vs, .ref aT, .int tl])), (aL, .inl (K.2.1, 62, .inl fL)), (aM, .inl (K.1, 62, .inl fM))] H ∧ va_D A [(h0, .inr (1, [.long seed, .ref hM, .ref hO, .int (nI cnt), .ref aS, .ref aA, .ref aB, .ref aN, .ref aM, .ref aL, .int vb, .int vs, .ref aT, .int tl])), (aL, .inl (K.2.1, 62, .inl fL)), (aM, .inl (K.1, 62, .inl fM))] ∧ va_S A s.heap H locs ∧ lv_has ls 3 [(2, .int (nI i)), (1, .int (bd_ml fL fM i)), (0, .ref h0)]) (fun (i : Nat) => cnt - i) (fun z H locs ls hI ih_4 => ?_) 0 ⟨Nat.zero_le _, hP, hD, hS, lv_sub hl [0, 1, 2] rfl⟩
  obtain ⟨i, rfl⟩ : ∃ y, y = z := ⟨_, rfl⟩
  obtain ⟨hi, hP, hD, hS, hl⟩ := hI
  have hP : va_P D vwCl [(h0, .inr (1, [.long seed, .ref hM, .ref hO, .int (nI cnt), .ref aS, .ref aA, .ref aB, .ref aN, .ref aM, .ref aL, .int vb, .int vs, .ref aT, .int tl])), (aL, .inl (K.2.1, 62, .inl fL)), (aM, .inl (K.1, 62, .inl fM))] H := hP
  have hD : va_D A [(h0, .inr (1, [.long seed, .ref hM, .ref hO, .int (nI cnt), .ref aS, .ref aA, .ref aB, .ref aN, .ref aM, .ref aL, .int vb, .int vs, .ref aT, .int tl])), (aL, .inl (K.2.1, 62, .inl fL)), (aM, .inl (K.1, 62, .inl fM))] := hD
  have hl : lv_has ls 3 [(2, .int (nI i)), (1, .int (bd_ml fL fM i)), (0, .ref h0)] := hl
  refine lv_iload_n hx hb d_B_marksLeft_4 rfl (lv_at hl 0 rfl) ?_
  refine lv_aload_n hx hb d_B_marksLeft_5 rfl (lv_at hl 2 rfl) ?_
  refine va_get (D := D) (ci := 1) (v := .int (nI cnt)) (C := "BuildDrawer") (T := TB) (N := 14) hx hb hw inB hown hK hP 0 rfl rfl 3 (by decide) (hw _ k_59) (fun _ h9 => h9) rfl d_B_marksLeft_6 ?_
  refine lv_icmp_ge (tgt := 42) hx hb d_B_marksLeft_9 (by decide) (fun r_9 => ?_) (fun r_9 => ?_)
  · have c_9 := (nI_leI (a := cnt) (b := i) (by omega) (by omega)).mp r_9
    refine lv_iload_n hx hb d_B_marksLeft_42 rfl (lv_at hl 1 rfl) ?_
    exact cx_iret hx hb hr hlocks hK hP hD hS d_B_marksLeft_43 (by rw [show i = cnt by omega]) (rfl)
  · have c_9 := mt (nI_leI (a := cnt) (b := i) (by omega) (by omega)).mpr r_9
    refine lv_iload_n hx hb d_B_marksLeft_12 rfl (lv_at hl 0 rfl) ?_
    refine lv_bipush (v := 62) hx hb d_B_marksLeft_13 (by decide) ?_
    refine lv_icmp_ge (tgt := 42) hx hb d_B_marksLeft_15 (by decide) (fun r_15 => ?_) (fun r_15 => ?_)
    · have c_15 := (nI_leI (a := 62) (b := i) (by omega) (by omega)).mp r_15
      omega
    · have c_15 := mt (nI_leI (a := 62) (b := i) (by omega) (by omega)).mpr r_15
      refine lv_aload_n hx hb d_B_marksLeft_18 rfl (lv_at hl 2 rfl) ?_
      refine va_get (D := D) (ci := 1) (v := .ref aL) (C := "BuildDrawer") (T := TB) (N := 14) hx hb hw inB hown hK hP 0 rfl rfl 9 (by decide) (hw _ k_65) (fun _ h9 => h9) rfl d_B_marksLeft_19 ?_
      refine lv_iload_n hx hb d_B_marksLeft_22 rfl (lv_at hl 0 rfl) ?_
      refine va_zald hx hb hK hP 1 1 rfl rfl (vp_in_nI (n := i) (by omega) (by omega)) d_B_marksLeft_23 ?_
      refine cx_ti (y := fL i) (by rw [nI_clamp (by omega)]) ?_
      refine lv_if_eq (tgt := 36) hx hb d_B_marksLeft_24 (by decide) (fun r_24 => ?_) (fun r_24 => ?_)
      · have c_24 := r_24
        have e_i : bd_ml fL fM (i + 1) = bd_ml fL fM i := by rw [bd_ml, if_pos r_24]
        rw [← e_i] at hl
        refine lv_iinc (v := nI (i + 1)) (lv' := [(2, .int (nI (i + 1))), (1, .int (bd_ml fL fM (i + 1))), (0, .ref h0)]) hx hb d_B_marksLeft_36 hl (k := 0) rfl (by exact cx_inc i) (by decide) rfl (fun ls hl => ?_)
        refine lv_goto (tgt := 4) hx hb d_B_marksLeft_39 (by decide) ?_
        exact ih_4 (i + 1) _ _ _ ⟨(by omega), hP, hD, hS, lv_sub hl [0, 1, 2] rfl⟩ (by omega)
      · have c_24 := r_24
        have e_i : bd_ml fL fM (i + 1) = bd_ml fL fM i ||| fM i := by rw [bd_ml, if_neg r_24]
        refine lv_iload_n hx hb d_B_marksLeft_27 rfl (lv_at hl 1 rfl) ?_
        refine lv_aload_n hx hb d_B_marksLeft_28 rfl (lv_at hl 2 rfl) ?_
        refine va_get (D := D) (ci := 1) (v := .ref aM) (C := "BuildDrawer") (T := TB) (N := 14) hx hb hw inB hown hK hP 0 rfl rfl 8 (by decide) (hw _ k_64) (fun _ h9 => h9) rfl d_B_marksLeft_29 ?_
        refine lv_iload_n hx hb d_B_marksLeft_32 rfl (lv_at hl 0 rfl) ?_
        refine va_iald hx hb hK hP 2 0 rfl rfl (vp_in_nI (n := i) (by omega) (by omega)) d_B_marksLeft_33 ?_
        refine cx_ti (y := fM i) (by rw [nI_clamp (by omega)]) ?_
        refine lv_ior hx hb d_B_marksLeft_34 ?_
        refine lv_istore_n (lv' := [(1, .int ((bd_ml fL fM i) ||| (fM i))), (2, .int (nI i)), (0, .ref h0)]) hx hb d_B_marksLeft_35 rfl hl (by decide) rfl (fun ls hl => ?_)
        rw [← e_i] at hl
        refine lv_iinc (v := nI (i + 1)) (lv' := [(2, .int (nI (i + 1))), (1, .int (bd_ml fL fM (i + 1))), (0, .ref h0)]) hx hb d_B_marksLeft_36 hl (k := 1) rfl (by exact cx_inc i) (by decide) rfl (fun ls hl => ?_)
        refine lv_goto (tgt := 4) hx hb d_B_marksLeft_39 (by decide) ?_
        exact ih_4 (i + 1) _ _ _ ⟨(by omega), hP, hD, hS, lv_sub hl [0, 1, 2] rfl⟩ (by omega)
set_option maxHeartbeats 4000000 in
set_option maxRecDepth 100000 in
theorem c_B_commonSet (l : Launch) (G : cx_G) (D : va_G) (K : cx_KT) (sz : Nat) (h0 : Nat) (seed : Int64) (hM : Nat) (hO : Nat) (cnt : Nat) (aS : Nat) (aA : Nat) (aB : Nat) (aN : Nat) (aM : Nat) (aL : Nat) (vb : Int32) (vs : Int32) (aT : Nat) (tl : Int32) (fL : Nat → Int32) (fS : Nat → Int32) (fB : Nat → Int32) (hcnt : cnt ≤ 62) : Met l y_B_commonSet w_B_commonSet ({ frames := 0, cells := 0, slots := 0, locals := 0 }) (cx_Pc G D (cx_ty K) [(h0, .inr (1, [.long seed, .ref hM, .ref hO, .int (nI cnt), .ref aS, .ref aA, .ref aB, .ref aN, .ref aM, .ref aL, .int vb, .int vs, .ref aT, .int tl])), (aL, .inl (K.2.1, 62, .inl fL)), (aS, .inl (K.1, 62, .inl fS)), (aB, .inl (K.1, 62, .inl fB))] sz [.ref h0]) (cx_Qi (bd_cs fL fS fB cnt) D (cx_ty K) [(h0, .inr (1, [.long seed, .ref hM, .ref hO, .int (nI cnt), .ref aS, .ref aA, .ref aB, .ref aN, .ref aM, .ref aL, .int vb, .int vs, .ref aT, .int tl])), (aL, .inl (K.2.1, 62, .inl fL)), (aS, .inl (K.1, 62, .inl fS)), (aB, .inl (K.1, 62, .inl fB))] (va_A [(h0, .inr (1, [.long seed, .ref hM, .ref hO, .int (nI cnt), .ref aS, .ref aA, .ref aB, .ref aN, .ref aM, .ref aL, .int vb, .int vs, .ref aT, .int tl])), (aL, .inl (K.2.1, 62, .inl fL)), (aS, .inl (K.1, 62, .inl fS)), (aB, .inl (K.1, 62, .inl fB))] sz)) 0 0 (va_A [(h0, .inr (1, [.long seed, .ref hM, .ref hO, .int (nI cnt), .ref aS, .ref aA, .ref aB, .ref aN, .ref aM, .ref aL, .int vb, .int vs, .ref aT, .int tl])), (aL, .inl (K.2.1, 62, .inl fL)), (aS, .inl (K.1, 62, .inl fS)), (aB, .inl (K.1, 62, .inl fB))] sz) := by
  refine Met.ofW (cc := prog_1_method_15_code) (maxL := 3) (ret := (some .int)) (by decide) rfl ?_
  intro p e s m args below meth c s₁ B hml hv
  obtain ⟨rfl, hsz, hP, hK, hD0, hE⟩ := hv
  have hx := B.exec
  have hb := B.bytes
  have hr := B.returns
  have hts := atoms_spec (ws := w_B_commonSet) B.pre
  have hw : ∀ w ∈ cw, w.before _ s = true := fun w h => hts w (List.mem_cons_of_mem _ h)
  have hown : s.vm.findClass "BuildDrawer" = some m.cls := findClass_of_methodNamed B.named
  have hlocks := B.notSynchronized
  subst hsz
  have hD := hD0.self (sz := s.heap.size)
  generalize hAe : va_A [(h0, .inr (1, [.long seed, .ref hM, .ref hO, .int (nI cnt), .ref aS, .ref aA, .ref aB, .ref aN, .ref aM, .ref aL, .int vb, .int vs, .ref aT, .int tl])), (aL, .inl (K.2.1, 62, .inl fL)), (aS, .inl (K.1, 62, .inl fS)), (aB, .inl (K.1, 62, .inl fB))] s.heap.size = A at hD hE ⊢
  have hA : ∀ q : Nat, s.heap.size ≤ q → A q := fun q h => by rw [← hAe]; exact Or.inr h
  have hS : va_S A s.heap s.heap [] := va_S.rf
  have hl := lv_entry ([.ref h0]) (n := 3) (Nat.le_of_ble_eq_true rfl)
  rw [lg_entry_eq]
  generalize (lg_sl ([.ref h0]) ++ List.replicate (3 - (lg_sl ([.ref h0])).length) Slot.unset).toArray = ls at hl ⊢
  have hl : lv_has ls 3 [(0, .ref h0)] := hl
  refine lv_sipush (v := 255) hx hb d_B_commonSet_0 (by decide) ?_
  refine lv_istore_n (lv' := [(1, .int 255), (0, .ref h0)]) hx hb d_B_commonSet_3 rfl hl (by decide) rfl (fun ls hl => ?_)
  refine lv_iconst (v := 0) hx hb d_B_commonSet_4 (by decide) ?_
  refine lv_istore_n (lv' := [(2, .int 0), (1, .int 255), (0, .ref h0)]) hx hb d_B_commonSet_5 rfl hl (by decide) rfl (fun ls hl => ?_)
  refine cx_loop (pc := 6) (st := []) (fun (i : Nat) H locs ls => (i ≤ cnt) ∧ va_P D vwCl [(h0, .inr (1, [.long seed, .ref hM, .ref hO, .int (nI cnt), .ref aS, .ref aA, .ref aB, .ref aN, .ref aM, .ref aL, .int vb, .int vs, .ref aT, .int tl])), (aL, .inl (K.2.1, 62, .inl fL)), (aS, .inl (K.1, 62, .inl fS)), (aB, .inl (K.1, 62, .inl fB))] H ∧ va_D A [(h0, .inr (1, [.long seed, .ref hM, .ref hO, .int (nI cnt), .ref aS, .ref aA, .ref aB, .ref aN, .ref aM, .ref aL, .int vb, .int vs, .ref aT, .int tl])), (aL, .inl (K.2.1, 62, .inl fL)), (aS, .inl (K.1, 62, .inl fS)), (aB, .inl (K.1, 62, .inl fB))] ∧ va_S A s.heap H locs ∧ lv_has ls 3 [(2, .int (nI i)), (1, .int (bd_cs fL fS fB i)), (0, .ref h0)]) (fun (i : Nat) => cnt - i) (fun z H locs ls hI ih_6 => ?_) 0 ⟨Nat.zero_le _, hP, hD, hS, lv_sub hl [0, 1, 2] rfl⟩
  obtain ⟨i, rfl⟩ : ∃ y, y = z := ⟨_, rfl⟩
  obtain ⟨hi, hP, hD, hS, hl⟩ := hI
  have hP : va_P D vwCl [(h0, .inr (1, [.long seed, .ref hM, .ref hO, .int (nI cnt), .ref aS, .ref aA, .ref aB, .ref aN, .ref aM, .ref aL, .int vb, .int vs, .ref aT, .int tl])), (aL, .inl (K.2.1, 62, .inl fL)), (aS, .inl (K.1, 62, .inl fS)), (aB, .inl (K.1, 62, .inl fB))] H := hP
  have hD : va_D A [(h0, .inr (1, [.long seed, .ref hM, .ref hO, .int (nI cnt), .ref aS, .ref aA, .ref aB, .ref aN, .ref aM, .ref aL, .int vb, .int vs, .ref aT, .int tl])), (aL, .inl (K.2.1, 62, .inl fL)), (aS, .inl (K.1, 62, .inl fS)), (aB, .inl (K.1, 62, .inl fB))] := hD
  have hl : lv_has ls 3 [(2, .int (nI i)), (1, .int (bd_cs fL fS fB i)), (0, .ref h0)] := hl
  refine lv_iload_n hx hb d_B_commonSet_6 rfl (lv_at hl 0 rfl) ?_
  refine lv_aload_n hx hb d_B_commonSet_7 rfl (lv_at hl 2 rfl) ?_
  refine va_get (D := D) (ci := 1) (v := .int (nI cnt)) (C := "BuildDrawer") (T := TB) (N := 14) hx hb hw inB hown hK hP 0 rfl rfl 3 (by decide) (hw _ k_59) (fun _ h9 => h9) rfl d_B_commonSet_8 ?_
  refine lv_icmp_ge (tgt := 54) hx hb d_B_commonSet_11 (by decide) (fun r_11 => ?_) (fun r_11 => ?_)
  · have c_11 := (nI_leI (a := cnt) (b := i) (by omega) (by omega)).mp r_11
    refine lv_iload_n hx hb d_B_commonSet_54 rfl (lv_at hl 1 rfl) ?_
    exact cx_iret hx hb hr hlocks hK hP hD hS d_B_commonSet_55 (by rw [show i = cnt by omega]) (rfl)
  · have c_11 := mt (nI_leI (a := cnt) (b := i) (by omega) (by omega)).mpr r_11
    refine lv_iload_n hx hb d_B_commonSet_14 rfl (lv_at hl 0 rfl) ?_
    refine lv_bipush (v := 62) hx hb d_B_commonSet_15 (by decide) ?_
    refine lv_icmp_ge (tgt := 54) hx hb d_B_commonSet_17 (by decide) (fun r_17 => ?_) (fun r_17 => ?_)
    · have c_17 := (nI_leI (a := 62) (b := i) (by omega) (by omega)).mp r_17
      omega
    · have c_17 := mt (nI_leI (a := 62) (b := i) (by omega) (by omega)).mpr r_17
      refine lv_aload_n hx hb d_B_commonSet_20 rfl (lv_at hl 2 rfl) ?_
      refine va_get (D := D) (ci := 1) (v := .ref aL) (C := "BuildDrawer") (T := TB) (N := 14) hx hb hw inB hown hK hP 0 rfl rfl 9 (by decide) (hw _ k_65) (fun _ h9 => h9) rfl d_B_commonSet_21 ?_
      refine lv_iload_n hx hb d_B_commonSet_24 rfl (lv_at hl 0 rfl) ?_
      refine va_zald hx hb hK hP 1 1 rfl rfl (vp_in_nI (n := i) (by omega) (by omega)) d_B_commonSet_25 ?_
      refine cx_ti (y := fL i) (by rw [nI_clamp (by omega)]) ?_
      refine lv_if_eq (tgt := 48) hx hb d_B_commonSet_26 (by decide) (fun r_26 => ?_) (fun r_26 => ?_)
      · have c_26 := r_26
        have e_i : bd_cs fL fS fB (i + 1) = bd_cs fL fS fB i := by rw [bd_cs, if_pos r_26]
        rw [← e_i] at hl
        refine lv_iinc (v := nI (i + 1)) (lv' := [(2, .int (nI (i + 1))), (1, .int (bd_cs fL fS fB (i + 1))), (0, .ref h0)]) hx hb d_B_commonSet_48 hl (k := 0) rfl (by exact cx_inc i) (by decide) rfl (fun ls hl => ?_)
        refine lv_goto (tgt := 6) hx hb d_B_commonSet_51 (by decide) ?_
        exact ih_6 (i + 1) _ _ _ ⟨(by omega), hP, hD, hS, lv_sub hl [0, 1, 2] rfl⟩ (by omega)
      · have c_26 := r_26
        refine lv_aload_n hx hb d_B_commonSet_29 rfl (lv_at hl 2 rfl) ?_
        refine va_get (D := D) (ci := 1) (v := .ref aS) (C := "BuildDrawer") (T := TB) (N := 14) hx hb hw inB hown hK hP 0 rfl rfl 4 (by decide) (hw _ k_60) (fun _ h9 => h9) rfl d_B_commonSet_30 ?_
        refine lv_iload_n hx hb d_B_commonSet_33 rfl (lv_at hl 0 rfl) ?_
        refine va_iald hx hb hK hP 2 0 rfl rfl (vp_in_nI (n := i) (by omega) (by omega)) d_B_commonSet_34 ?_
        refine cx_ti (y := fS i) (by rw [nI_clamp (by omega)]) ?_
        refine lv_iconst (v := 2) hx hb d_B_commonSet_35 (by decide) ?_
        refine lv_icmp_ne (tgt := 48) hx hb d_B_commonSet_36 (by decide) (fun r_36 => ?_) (fun r_36 => ?_)
        · have c_36 := r_36
          have e_i : bd_cs fL fS fB (i + 1) = bd_cs fL fS fB i := by rw [bd_cs, if_neg r_26, if_neg r_36]
          rw [← e_i] at hl
          refine lv_iinc (v := nI (i + 1)) (lv' := [(2, .int (nI (i + 1))), (1, .int (bd_cs fL fS fB (i + 1))), (0, .ref h0)]) hx hb d_B_commonSet_48 hl (k := 0) rfl (by exact cx_inc i) (by decide) rfl (fun ls hl => ?_)
          refine lv_goto (tgt := 6) hx hb d_B_commonSet_51 (by decide) ?_
          exact ih_6 (i + 1) _ _ _ ⟨(by omega), hP, hD, hS, lv_sub hl [0, 1, 2] rfl⟩ (by omega)
        · have c_36 := r_36
          have e_i : bd_cs fL fS fB (i + 1) = bd_cs fL fS fB i &&& fB i := by rw [bd_cs, if_neg r_26, if_pos r_36]
          refine lv_iload_n hx hb d_B_commonSet_39 rfl (lv_at hl 1 rfl) ?_
          refine lv_aload_n hx hb d_B_commonSet_40 rfl (lv_at hl 2 rfl) ?_
          refine va_get (D := D) (ci := 1) (v := .ref aB) (C := "BuildDrawer") (T := TB) (N := 14) hx hb hw inB hown hK hP 0 rfl rfl 6 (by decide) (hw _ k_62) (fun _ h9 => h9) rfl d_B_commonSet_41 ?_
          refine lv_iload_n hx hb d_B_commonSet_44 rfl (lv_at hl 0 rfl) ?_
          refine va_iald hx hb hK hP 3 0 rfl rfl (vp_in_nI (n := i) (by omega) (by omega)) d_B_commonSet_45 ?_
          refine cx_ti (y := fB i) (by rw [nI_clamp (by omega)]) ?_
          refine lv_iand hx hb d_B_commonSet_46 ?_
          refine lv_istore_n (lv' := [(1, .int ((bd_cs fL fS fB i) &&& (fB i))), (2, .int (nI i)), (0, .ref h0)]) hx hb d_B_commonSet_47 rfl hl (by decide) rfl (fun ls hl => ?_)
          rw [← e_i] at hl
          refine lv_iinc (v := nI (i + 1)) (lv' := [(2, .int (nI (i + 1))), (1, .int (bd_cs fL fS fB (i + 1))), (0, .ref h0)]) hx hb d_B_commonSet_48 hl (k := 1) rfl (by exact cx_inc i) (by decide) rfl (fun ls hl => ?_)
          refine lv_goto (tgt := 6) hx hb d_B_commonSet_51 (by decide) ?_
          exact ih_6 (i + 1) _ _ _ ⟨(by omega), hP, hD, hS, lv_sub hl [0, 1, 2] rfl⟩ (by omega)
set_option maxHeartbeats 4000000 in
set_option maxRecDepth 100000 in
theorem c_B_holdsOf (l : Launch) (G : cx_G) (D : va_G) (K : cx_KT) (sz : Nat) (h0 : Nat) (seed : Int64) (hM : Nat) (hO : Nat) (cnt : Nat) (aS : Nat) (aA : Nat) (aB : Nat) (aN : Nat) (aM : Nat) (aL : Nat) (vb : Int32) (vs : Int32) (aT : Nat) (tl : Int32) (t : Int32)  : Met l y_B_holdsOf w_B_holdsOf ({ frames := 0, cells := 0, slots := 0, locals := 0 }) (cx_Pc G D (cx_ty K) [(h0, .inr (1, [.long seed, .ref hM, .ref hO, .int (nI cnt), .ref aS, .ref aA, .ref aB, .ref aN, .ref aM, .ref aL, .int vb, .int vs, .ref aT, .int tl]))] sz [.ref h0, .int t]) (cx_Qi (bd_ho vb vs t) D (cx_ty K) [(h0, .inr (1, [.long seed, .ref hM, .ref hO, .int (nI cnt), .ref aS, .ref aA, .ref aB, .ref aN, .ref aM, .ref aL, .int vb, .int vs, .ref aT, .int tl]))] (va_A [(h0, .inr (1, [.long seed, .ref hM, .ref hO, .int (nI cnt), .ref aS, .ref aA, .ref aB, .ref aN, .ref aM, .ref aL, .int vb, .int vs, .ref aT, .int tl]))] sz)) 0 0 (va_A [(h0, .inr (1, [.long seed, .ref hM, .ref hO, .int (nI cnt), .ref aS, .ref aA, .ref aB, .ref aN, .ref aM, .ref aL, .int vb, .int vs, .ref aT, .int tl]))] sz) := by
  refine Met.ofW (cc := prog_1_method_16_code) (maxL := 3) (ret := (some .boolean)) (by decide) rfl ?_
  intro p e s m args below meth c s₁ B hml hv
  obtain ⟨rfl, hsz, hP, hK, hD0, hE⟩ := hv
  have hx := B.exec
  have hb := B.bytes
  have hr := B.returns
  have hts := atoms_spec (ws := w_B_holdsOf) B.pre
  have hw : ∀ w ∈ cw, w.before _ s = true := fun w h => hts w (List.mem_cons_of_mem _ h)
  have hown : s.vm.findClass "BuildDrawer" = some m.cls := findClass_of_methodNamed B.named
  have hlocks := B.notSynchronized
  subst hsz
  have hD := hD0.self (sz := s.heap.size)
  generalize hAe : va_A [(h0, .inr (1, [.long seed, .ref hM, .ref hO, .int (nI cnt), .ref aS, .ref aA, .ref aB, .ref aN, .ref aM, .ref aL, .int vb, .int vs, .ref aT, .int tl]))] s.heap.size = A at hD hE ⊢
  have hA : ∀ q : Nat, s.heap.size ≤ q → A q := fun q h => by rw [← hAe]; exact Or.inr h
  have hS : va_S A s.heap s.heap [] := va_S.rf
  have hl := lv_entry ([.ref h0, .int t]) (n := 3) (Nat.le_of_ble_eq_true rfl)
  rw [lg_entry_eq]
  generalize (lg_sl ([.ref h0, .int t]) ++ List.replicate (3 - (lg_sl ([.ref h0, .int t])).length) Slot.unset).toArray = ls at hl ⊢
  have hl : lv_has ls 3 [(0, .ref h0), (1, .int t)] := hl
  refine lv_aload_n hx hb d_B_holdsOf_0 rfl (lv_at hl 0 rfl) ?_
  refine va_get (D := D) (ci := 1) (v := .int vb) (C := "BuildDrawer") (T := TB) (N := 14) hx hb hw inB hown hK hP 0 rfl rfl 10 (by decide) (hw _ k_66) (fun _ h9 => h9) rfl d_B_holdsOf_1 ?_
  refine lv_iload_n hx hb d_B_holdsOf_4 rfl (lv_at hl 1 rfl) ?_
  refine lv_iconst (v := (-1)) hx hb d_B_holdsOf_5 (by decide) ?_
  refine lv_ixor hx hb d_B_holdsOf_6 ?_
  refine lv_iand hx hb d_B_holdsOf_7 ?_
  refine lv_if_ne (tgt := 15) hx hb d_B_holdsOf_8 (by decide) (fun r_8 => ?_) (fun r_8 => ?_)
  · have c_8 := r_8
    refine lv_iconst (v := 0) hx hb d_B_holdsOf_15 (by decide) ?_
    refine lv_istore_n (lv' := [(2, .int 0), (0, .ref h0), (1, .int t)]) hx hb d_B_holdsOf_16 rfl hl (by decide) rfl (fun ls hl => ?_)
    refine lv_iload_n hx hb d_B_holdsOf_17 rfl (lv_at hl 0 rfl) ?_
    refine lv_aload_n hx hb d_B_holdsOf_18 rfl (lv_at hl 1 rfl) ?_
    refine va_get (D := D) (ci := 1) (v := .int vs) (C := "BuildDrawer") (T := TB) (N := 14) hx hb hw inB hown hK hP 0 rfl rfl 11 (by decide) (hw _ k_67) (fun _ h9 => h9) rfl d_B_holdsOf_19 ?_
    refine lv_icmp_ne (tgt := 29) hx hb d_B_holdsOf_22 (by decide) (fun r_22 => ?_) (fun r_22 => ?_)
    · have c_22 := r_22
      refine lv_iconst (v := 0) hx hb d_B_holdsOf_29 (by decide) ?_
      exact cx_zret hx hb hr hlocks hK hP hD hS d_B_holdsOf_30 (rfl) (by simp only [bd_ho, if_neg r_8, if_neg r_22]) (rfl)
    · have c_22 := r_22
      refine lv_iconst (v := 1) hx hb d_B_holdsOf_25 (by decide) ?_
      refine lv_goto (tgt := 30) hx hb d_B_holdsOf_26 (by decide) ?_
      exact cx_zret hx hb hr hlocks hK hP hD hS d_B_holdsOf_30 (rfl) (by simp only [bd_ho, if_neg r_8, if_pos r_22]) (rfl)
  · have c_8 := r_8
    refine lv_iconst (v := 1) hx hb d_B_holdsOf_11 (by decide) ?_
    refine lv_goto (tgt := 16) hx hb d_B_holdsOf_12 (by decide) ?_
    refine lv_istore_n (lv' := [(2, .int 1), (0, .ref h0), (1, .int t)]) hx hb d_B_holdsOf_16 rfl hl (by decide) rfl (fun ls hl => ?_)
    refine lv_iload_n hx hb d_B_holdsOf_17 rfl (lv_at hl 0 rfl) ?_
    refine lv_aload_n hx hb d_B_holdsOf_18 rfl (lv_at hl 1 rfl) ?_
    refine va_get (D := D) (ci := 1) (v := .int vs) (C := "BuildDrawer") (T := TB) (N := 14) hx hb hw inB hown hK hP 0 rfl rfl 11 (by decide) (hw _ k_67) (fun _ h9 => h9) rfl d_B_holdsOf_19 ?_
    refine lv_icmp_ne (tgt := 29) hx hb d_B_holdsOf_22 (by decide) (fun r_22 => ?_) (fun r_22 => ?_)
    · have c_22 := r_22
      refine lv_iconst (v := 0) hx hb d_B_holdsOf_29 (by decide) ?_
      exact cx_zret hx hb hr hlocks hK hP hD hS d_B_holdsOf_30 (rfl) (by simp only [bd_ho, if_pos r_8, if_neg r_22]) (rfl)
    · have c_22 := r_22
      refine lv_iconst (v := 1) hx hb d_B_holdsOf_25 (by decide) ?_
      refine lv_goto (tgt := 30) hx hb d_B_holdsOf_26 (by decide) ?_
      exact cx_zret hx hb hr hlocks hK hP hD hS d_B_holdsOf_30 (rfl) (by simp only [bd_ho, if_pos r_8, if_pos r_22]) (rfl)
set_option maxHeartbeats 4000000 in
set_option maxRecDepth 100000 in
theorem c_B_verdict (l : Launch) (G : cx_G) (D : va_G) (K : cx_KT) (sz : Nat) (h0 : Nat) (seed : Int64) (hM : Nat) (hO : Nat) (cnt : Nat) (aS : Nat) (aA : Nat) (aB : Nat) (aN : Nat) (aM : Nat) (aL : Nat) (vb : Int32) (vs : Int32) (aT : Nat) (tl : Int32) (b : Int32) (z : Int32) (hz : z = 0 ∨ z = 1) : Met l y_B_verdict w_B_verdict ({ frames := 0, cells := 0, slots := 0, locals := 0 }) (cx_Pc G D (cx_ty K) [(h0, .inr (1, [.long seed, .ref hM, .ref hO, .int (nI cnt), .ref aS, .ref aA, .ref aB, .ref aN, .ref aM, .ref aL, .int vb, .int vs, .ref aT, .int tl]))] sz [.ref h0, .int b, .int z]) (cx_Qv D (cx_ty K) [(h0, .inr (1, [.long seed, .ref hM, .ref hO, .int (nI cnt), .ref aS, .ref aA, .ref aB, .ref aN, .ref aM, .ref aL, .int (b &&& 255), .int z, .ref aT, .int tl]))] (va_A [(h0, .inr (1, [.long seed, .ref hM, .ref hO, .int (nI cnt), .ref aS, .ref aA, .ref aB, .ref aN, .ref aM, .ref aL, .int vb, .int vs, .ref aT, .int tl]))] sz)) 0 0 (va_A [(h0, .inr (1, [.long seed, .ref hM, .ref hO, .int (nI cnt), .ref aS, .ref aA, .ref aB, .ref aN, .ref aM, .ref aL, .int vb, .int vs, .ref aT, .int tl]))] sz) := by
  refine Met.ofW (cc := prog_1_method_5_code) (maxL := 3) (ret := none) (by decide) rfl ?_
  intro p e s m args below meth c s₁ B hml hv
  obtain ⟨rfl, hsz, hP, hK, hD0, hE⟩ := hv
  have hx := B.exec
  have hb := B.bytes
  have hr := B.returns
  have hts := atoms_spec (ws := w_B_verdict) B.pre
  have hw : ∀ w ∈ cw, w.before _ s = true := fun w h => hts w (List.mem_cons_of_mem _ h)
  have hown : s.vm.findClass "BuildDrawer" = some m.cls := findClass_of_methodNamed B.named
  have hlocks := B.notSynchronized
  subst hsz
  have hD := hD0.self (sz := s.heap.size)
  generalize hAe : va_A [(h0, .inr (1, [.long seed, .ref hM, .ref hO, .int (nI cnt), .ref aS, .ref aA, .ref aB, .ref aN, .ref aM, .ref aL, .int vb, .int vs, .ref aT, .int tl]))] s.heap.size = A at hD hE ⊢
  have hA : ∀ q : Nat, s.heap.size ≤ q → A q := fun q h => by rw [← hAe]; exact Or.inr h
  have hS : va_S A s.heap s.heap [] := va_S.rf
  have hl := lv_entry ([.ref h0, .int b, .int z]) (n := 3) (Nat.le_of_ble_eq_true rfl)
  rw [lg_entry_eq]
  generalize (lg_sl ([.ref h0, .int b, .int z]) ++ List.replicate (3 - (lg_sl ([.ref h0, .int b, .int z])).length) Slot.unset).toArray = ls at hl ⊢
  have hl : lv_has ls 3 [(0, .ref h0), (1, .int b), (2, .int z)] := hl
  refine lv_aload_n hx hb d_B_verdict_0 rfl (lv_at hl 0 rfl) ?_
  refine lv_iload_n hx hb d_B_verdict_1 rfl (lv_at hl 1 rfl) ?_
  refine lv_sipush (v := 255) hx hb d_B_verdict_2 (by decide) ?_
  refine lv_iand hx hb d_B_verdict_5 ?_
  refine va_put (D := D) (ci := 1) (v := .int (b &&& 255)) (ty := .int) (C := "BuildDrawer") (T := TB) (N := 14) hx hb hw inB tyB tyB_ok nmB hown hK hP hD hS 0 rfl rfl 10 (by decide) (hw _ k_66) (fun _ h9 => h9) rfl (by decide +kernel) rfl rfl (Nat.le_of_ble_eq_true rfl) d_B_verdict_6 (fun H locs hP hD hS => ?_)
  have hP : va_P D vwCl [(h0, .inr (1, [.long seed, .ref hM, .ref hO, .int (nI cnt), .ref aS, .ref aA, .ref aB, .ref aN, .ref aM, .ref aL, .int (b &&& 255), .int vs, .ref aT, .int tl]))] H := hP
  have hD : va_D A [(h0, .inr (1, [.long seed, .ref hM, .ref hO, .int (nI cnt), .ref aS, .ref aA, .ref aB, .ref aN, .ref aM, .ref aL, .int (b &&& 255), .int vs, .ref aT, .int tl]))] := hD
  refine lv_aload_n hx hb d_B_verdict_9 rfl (lv_at hl 0 rfl) ?_
  refine lv_iload_n hx hb d_B_verdict_10 rfl (lv_at hl 2 rfl) ?_
  refine va_put (D := D) (ci := 1) (v := .int z) (ty := .boolean) (C := "BuildDrawer") (T := TB) (N := 14) hx hb hw inB tyB tyB_ok nmB hown hK hP hD hS 0 rfl rfl 11 (by decide) (hw _ k_67) (fun _ h9 => h9) rfl (by decide +kernel) (bd_01 hz).1 (bd_01 hz).2 (Nat.le_of_ble_eq_true rfl) d_B_verdict_11 (fun H locs hP hD hS => ?_)
  have hP : va_P D vwCl [(h0, .inr (1, [.long seed, .ref hM, .ref hO, .int (nI cnt), .ref aS, .ref aA, .ref aB, .ref aN, .ref aM, .ref aL, .int (b &&& 255), .int z, .ref aT, .int tl]))] H := hP
  have hD : va_D A [(h0, .inr (1, [.long seed, .ref hM, .ref hO, .int (nI cnt), .ref aS, .ref aA, .ref aB, .ref aN, .ref aM, .ref aL, .int (b &&& 255), .int z, .ref aT, .int tl]))] := hD
  exact cx_vret hx hb hr hlocks hK hP hD hS d_B_verdict_14 (rfl)
