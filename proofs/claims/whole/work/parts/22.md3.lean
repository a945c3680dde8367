theorem bd_sub0 (i b : Int32) : i - b = 0 ↔ b = i := by
  constructor
  · intro h
    have h2 := congrArg (fun x => x + b) h
    simp only [Int32.sub_add_cancel, Int32.zero_add] at h2
    exact h2.symm
  · intro h
    rw [h]; exact Int32.sub_self _
theorem bd_subS (i b : Int32) : i - b + Int32.ofInt (-1) = i - (b + 1) := by
  rw [show Int32.ofInt (-1) = -1 from rfl, Int32.sub_eq_add_neg, Int32.sub_eq_add_neg, Int32.neg_add, Int32.add_assoc, Int32.sub_eq_add_neg]
theorem bd_subz (i : Int32) : i - 0 = i := Int32.sub_zero i
def bd_mp (c : Nat → Int32) : Nat → Int32
  | 0 => 1
  | j + 1 => if bd_mp c j = 0 then 0 else if c j = 0 then 1 else 0
theorem bd_mp1 {c : Nat → Int32} : ∀ {n : Nat}, (∀ i, i < n → c i = 0) → bd_mp c n = 1 := by
  intro n
  induction n with
  | zero => intro _; rfl
  | succ n ih => intro h; rw [bd_mp, ih (fun i hi => h i (by omega)), if_neg (by decide), if_pos (h n (by omega))]
theorem bd_mp0 {c : Nat → Int32} {i : Nat} (hc : ¬ c i = 0) : ∀ {n : Nat}, i < n → bd_mp c n = 0 := by
  intro n
  induction n with
  | zero => intro h; omega
  | succ n ih =>
    intro h
    by_cases h2 : i = n
    · rw [← h2, bd_mp]
      split
      · rfl
      · first | rfl | rw [if_neg hc]
    · rw [bd_mp, ih (by omega), if_pos rfl]
theorem bd_mi1 {c : Nat → Int32} : ∀ {n j : Nat}, (∀ i, j ≤ i → i < j + n → c i = 0) → bd_mi c n j = 1 := by
  intro n
  induction n with
  | zero => intro j _; rfl
  | succ n ih => intro j h; rw [bd_mi, if_pos (h j (by omega) (by omega))]; exact ih (fun i h1 h2 => h i (by omega) (by omega))
theorem bd_mi0 {c : Nat → Int32} {i : Nat} (hc : ¬ c i = 0) : ∀ {n j : Nat}, j ≤ i → i < j + n → bd_mi c n j = 0 := by
  intro n
  induction n with
  | zero => intro j h1 h2; omega
  | succ n ih =>
    intro j h1 h2
    rw [bd_mi]
    split
    · rename_i h3
      have : j ≠ i := fun e => hc (by rw [← e]; exact h3)
      exact ih (by omega) (by omega)
    · rfl
theorem bd_mpmi (c : Nat → Int32) (n : Nat) : bd_mp c n = bd_mi c n 0 := by
  by_cases h : ∃ i, i < n ∧ ¬ c i = 0
  · obtain ⟨i, h1, h2⟩ := h
    rw [bd_mp0 h2 h1, bd_mi0 h2 (Nat.zero_le _) (by omega)]
  · have h2 : ∀ i, i < n → c i = 0 := fun i hi => Classical.byContradiction (fun h3 => h ⟨i, hi, h3⟩)
    rw [bd_mp1 h2, bd_mi1 (fun i _ h3 => h2 i (by omega))]
theorem bd_cl_up {f : Nat → Int32} {k : Nat} (hf : ¬ f k = 0) : ∀ {n : Nat}, bd_cl (upd f k 0) n = if k < n then bd_cl f n - 1 else bd_cl f n := by
  intro n
  induction n with
  | zero => rfl
  | succ n ih =>
    by_cases h : n = k
    · subst h
      rw [bd_cl, pk_us, if_pos rfl, ih, if_neg (by omega), if_pos (by omega), bd_cl, if_neg hf]
      omega
    · rw [bd_cl, pk_un h, ih, bd_cl]
      by_cases h2 : k < n
      · have h3 : 0 < bd_cl f n := by
          clear ih
          induction n with
          | zero => omega
          | succ n ih2 =>
            rw [bd_cl]
            by_cases h4 : n = k
            · subst h4; rw [if_neg hf]; omega
            · split
              · exact ih2 h4 (by omega)
              · omega
        rw [if_pos h2, if_pos (show k < n + 1 by omega)]
        split <;> omega
      · rw [if_neg h2, if_neg (show ¬ k < n + 1 by omega)]
theorem bd_cl_pos {f : Nat → Int32} {k : Nat} (hf : ¬ f k = 0) : ∀ {n : Nat}, k < n → 0 < bd_cl f n := by
  intro n
  induction n with
  | zero => intro h; omega
  | succ n ih =>
    intro h
    rw [bd_cl]
    by_cases h4 : n = k
    · subst h4; rw [if_neg hf]; omega
    · split
      · exact ih (by omega)
      · omega
theorem bd_lo_cl {c : (Nat → Int32) → Nat → Int32} {cnt : Nat} (hc : ∀ f k, ¬ c f k = 0 → ¬ f k = 0) : ∀ (k : Nat), k ≤ cnt → ∀ (f : Nat → Int32) (w : Int32), bd_cl (bd_lo c k f w).1 cnt ≤ bd_cl f cnt ∧ (w = 0 → ¬ (bd_lo c k f w).2 = 0 → bd_cl (bd_lo c k f w).1 cnt < bd_cl f cnt) := by
  intro k
  induction k with
  | zero => intro _ f w; exact ⟨Nat.le_refl _, fun h1 h2 => absurd h1 h2⟩
  | succ k ih =>
    intro hk f w
    rw [bd_lo]
    split
    · exact ih (by omega) f w
    · rename_i h
      have h1 := hc f k h
      have h2 := bd_cl_up h1 (n := cnt)
      rw [if_pos (by omega)] at h2
      have h3 := bd_cl_pos h1 (n := cnt) (by omega)
      have h4 := (ih (by omega) (upd f k 0) 1).1
      exact ⟨by omega, fun _ _ => by omega⟩
theorem bd_cg_left {fN fM : Nat → Int32} {vb vs : Int32} {cnt : Nat} : ∀ (f : Nat → Int32) (k : Nat), ¬ bd_cg f fN fM vb vs cnt k = 0 → ¬ f k = 0 := fun f k h h2 => h (by rw [bd_cg, if_pos h2])
theorem bd_lo_cg {fN fM f g : Nat → Int32} {vb vs w : Int32} {cnt : Nat} (h : (g, w) = bd_lo (fun f k => bd_cg f fN fM vb vs cnt k) cnt f 0) (hw : ¬ w = 0) : bd_cl g cnt < bd_cl f cnt := by
  have h8 := (bd_lo_cl (c := fun f k => bd_cg f fN fM vb vs cnt k) (cnt := cnt) bd_cg_left cnt (Nat.le_refl _) f 0).2 rfl
  rw [← h] at h8
  exact h8 hw
theorem bd_la_step {c : (Nat → Int32) → Nat → Int32} {cnt fl : Nat} {f f2 : Nat → Int32} {a w : Int32} (h : bd_lo c cnt f 0 = (f2, w)) (ha : ¬ a = 0) : bd_la (fun f => bd_lo c cnt f 0) (fl + 1) f a = bd_la (fun f => bd_lo c cnt f 0) fl f2 w := by
  rw [bd_la, if_neg ha]
  simp only [h]
theorem bd_la_0 (r : (Nat → Int32) → (Nat → Int32) × Int32) (n : Nat) (f : Nat → Int32) {a : Int32} (h : a = 0) : bd_la r n f a = f := by
  cases n with
  | zero => rfl
  | succ n => rw [bd_la, if_pos h]
theorem bd_cs255 (f s b : Nat → Int32) : ∀ n, bd_cs f s b n &&& 255 = bd_cs f s b n := by
  intro n
  induction n with
  | zero => show (255 : Int32) &&& 255 = 255; decide
  | succ n ih =>
    rw [bd_cs]
    split
    · exact ih
    · split
      · rw [Int32.and_assoc, Int32.and_comm (b n) 255, ← Int32.and_assoc, ih]
      · exact ih
theorem bd_cs_lt (f s b : Nat → Int32) (n : Nat) : ∃ m, m < 256 ∧ bd_cs f s b n = nI m := by
  rw [← bd_cs255, pk_and _ 8 (by decide)]
  exact ⟨_, Nat.mod_lt _ (by decide), rfl⟩
def bd_sb (x : Int32) : Nat → Int32
  | 0 => 0
  | k + 1 => bd_sb x k + ((x >>> (nI k &&& 31)) &&& 1)
theorem bd_sb_bc : ∀ m, m < 256 → bd_sb (nI m) 8 = bd_bc (nI m) := by decide +kernel
theorem bd_ch_nil (i : Int32) : bd_ch [] i = -1 := by
  by_cases h : i < 0
  · rw [bd_ch, if_pos h]
  · rw [bd_ch, if_neg h, if_pos (show nI ([] : List Nat).length ≤ i from Int32.not_lt.mp h)]
theorem bd_ch_snoc (L : List Nat) (q : Nat) (i : Int32) (hL : L.length < 2 ^ 30) : bd_ch (L ++ [q]) i = if nI L.length = i then nI q else bd_ch L i := by
  have hl : (L ++ [q]).length = L.length + 1 := by simp
  by_cases h0 : i < 0
  · rw [bd_ch, if_pos h0, bd_ch, if_pos h0, if_neg]
    intro e; rw [← e] at h0; exact nI_pos (by omega) h0
  · obtain ⟨j, hj, rfl⟩ := nI_of h0
    rw [bd_ch, if_neg h0, bd_ch, if_neg h0, hl]
    by_cases h1 : L.length = j
    · rw [if_pos (show nI L.length = nI j by rw [h1]), if_neg (nI_ge (by omega) (by omega)), nI_clamp hj]
      rw [List.getD_eq_getElem?_getD, List.getElem?_append_right (by omega), h1, Nat.sub_self]; rfl
    · rw [if_neg (fun e => h1 ((nI_eq (by omega) hj).mp e))]
      by_cases h2 : L.length ≤ j
      · rw [if_pos (nI_le (by omega) hj), if_pos (nI_le h2 hj)]
      · rw [if_neg (nI_ge (by omega) (by omega)), if_neg (nI_ge (by omega) (by omega)), nI_clamp hj, List.getD_eq_getElem?_getD, List.getD_eq_getElem?_getD, List.getElem?_append_left (by omega)]
set_option maxHeartbeats 4000000 in
set_option maxRecDepth 100000 in
theorem c_M_draw (l : Launch) (G : cx_G) (D : va_G) (K : cx_KT) (sz : Nat) (h0 : Nat) (cd : Int32) (seed : Int64) (w : Int64) (cnt : Nat) (vb : Int32) (pl : Int32) (vs : Int32) (aS : Nat) (aA : Nat) (aB : Nat) (aN : Nat) (aM : Nat) (aL : Nat) (wa : Int32) (fo : Int32) (se : Int32) (fS : Nat → Int32) (fA : Nat → Int32) (fB : Nat → Int32) (fN : Nat → Int32) (fM : Nat → Int32) (fL : Nat → Int32) (kk : Nat) (zz : Nat) (hkk : kk < 8) (hzz : zz ≤ 60) : Met l y_M_draw w_M_draw ({ frames := 3, cells := 0, slots := 0, locals := 71 }) (cx_Pc G D (cx_ty K) [(h0, .inr (2, [.int cd, .long seed, .long w, .int (nI cnt), .int vb, .int pl, .int vs, .ref aS, .ref aA, .ref aB, .ref aN, .ref aM, .ref aL, .int wa, .int fo, .int se])), (aS, .inl (K.1, 124, .inl fS)), (aA, .inl (K.1, 124, .inl fA)), (aB, .inl (K.1, 124, .inl fB)), (aN, .inl (K.1, 124, .inl fN)), (aM, .inl (K.1, 124, .inl fM)), (aL, .inl (K.2.1, 62, .inl fL))] sz [.ref h0, .int (nI kk), .int (nI zz)]) (cx_Qi (nI (zz + 2)) D (cx_ty K) [(h0, .inr (2, [.int 0, .long seed, .long (bd_gW seed kk zz (zz + 2)), .int (nI (zz + 2)), .int vb, .int (bd_pl seed (nI kk) (nI zz)), .int vs, .ref aS, .ref aA, .ref aB, .ref aN, .ref aM, .ref aL, .int wa, .int fo, .int se])), (aS, .inl (K.1, 124, .inl (bd_fio (bd_gS seed kk zz) 0 (zz + 2) fS))), (aA, .inl (K.1, 124, .inl (bd_fio (bd_gA seed kk zz) 0 (zz + 2) fA))), (aB, .inl (K.1, 124, .inl (bd_fio (bd_gB seed kk zz) 0 (zz + 2) fB))), (aN, .inl (K.1, 124, .inl (bd_fio (bd_gN seed kk zz) 0 (zz + 2) fN))), (aM, .inl (K.1, 124, .inl (bd_fio (bd_gM seed kk zz) 0 (zz + 2) fM))), (aL, .inl (K.2.1, 62, .inl (bd_all (zz + 2) fL)))] (va_A [(h0, .inr (2, [.int cd, .long seed, .long w, .int (nI cnt), .int vb, .int pl, .int vs, .ref aS, .ref aA, .ref aB, .ref aN, .ref aM, .ref aL, .int wa, .int fo, .int se])), (aS, .inl (K.1, 124, .inl fS)), (aA, .inl (K.1, 124, .inl fA)), (aB, .inl (K.1, 124, .inl fB)), (aN, .inl (K.1, 124, .inl fN)), (aM, .inl (K.1, 124, .inl fM)), (aL, .inl (K.2.1, 62, .inl fL))] sz)) 0 0 (va_A [(h0, .inr (2, [.int cd, .long seed, .long w, .int (nI cnt), .int vb, .int pl, .int vs, .ref aS, .ref aA, .ref aB, .ref aN, .ref aM, .ref aL, .int wa, .int fo, .int se])), (aS, .inl (K.1, 124, .inl fS)), (aA, .inl (K.1, 124, .inl fA)), (aB, .inl (K.1, 124, .inl fB)), (aN, .inl (K.1, 124, .inl fN)), (aM, .inl (K.1, 124, .inl fM)), (aL, .inl (K.2.1, 62, .inl fL))] sz) := by
  refine Met.ofW (cc := prog_4_method_8_code) (maxL := 4) (ret := (some .int)) (by decide) rfl ?_
  intro p e s m args below meth c s₁ B hml hv
  obtain ⟨rfl, hsz, hP, hK, hD0, hE⟩ := hv
  have hx := B.exec
  have hb := B.bytes
  have hr := B.returns
  have hts := atoms_spec (ws := w_M_draw) B.pre
  have hw : ∀ w ∈ cw, w.before _ s = true := fun w h => hts w (List.mem_cons_of_mem _ h)
  have hown : s.vm.findClass "BuildDrawerModel" = some m.cls := findClass_of_methodNamed B.named
  have hlocks := B.notSynchronized
  subst hsz
  have hD := hD0.self (sz := s.heap.size)
  generalize hAe : va_A [(h0, .inr (2, [.int cd, .long seed, .long w, .int (nI cnt), .int vb, .int pl, .int vs, .ref aS, .ref aA, .ref aB, .ref aN, .ref aM, .ref aL, .int wa, .int fo, .int se])), (aS, .inl (K.1, 124, .inl fS)), (aA, .inl (K.1, 124, .inl fA)), (aB, .inl (K.1, 124, .inl fB)), (aN, .inl (K.1, 124, .inl fN)), (aM, .inl (K.1, 124, .inl fM)), (aL, .inl (K.2.1, 62, .inl fL))] s.heap.size = A at hD hE ⊢
  have hA : ∀ q : Nat, s.heap.size ≤ q → A q := fun q h => by rw [← hAe]; exact Or.inr h
  have hS : va_S A s.heap s.heap [] := va_S.rf
  have hl := lv_entry ([.ref h0, .int (nI kk), .int (nI zz)]) (n := 4) (Nat.le_of_ble_eq_true rfl)
  rw [lg_entry_eq]
  generalize (lg_sl ([.ref h0, .int (nI kk), .int (nI zz)]) ++ List.replicate (4 - (lg_sl ([.ref h0, .int (nI kk), .int (nI zz)])).length) Slot.unset).toArray = ls at hl ⊢
  have hl : lv_has ls 4 [(0, .ref h0), (1, .int (nI kk)), (2, .int (nI zz))] := hl
  refine lv_aload_n hx hb d_M_draw_0 rfl (lv_at hl 0 rfl) ?_
  refine lv_iconst (v := 0) hx hb d_M_draw_1 (by decide) ?_
  refine va_put (D := D) (ci := 2) (v := .int 0) (ty := .int) (C := "BuildDrawerModel") (T := TM) (N := 16) hx hb hw inM tyM tyM_ok nmM hown hK hP hD hS 0 rfl rfl 0 (by decide) (hw _ k_303) (fun _ h9 => h9) rfl (by decide +kernel) rfl rfl (Nat.le_of_ble_eq_true rfl) d_M_draw_2 (fun H locs hP hD hS => ?_)
  have hP : va_P D vwCl [(h0, .inr (2, [.int 0, .long seed, .long w, .int (nI cnt), .int vb, .int pl, .int vs, .ref aS, .ref aA, .ref aB, .ref aN, .ref aM, .ref aL, .int wa, .int fo, .int se])), (aS, .inl (K.1, 124, .inl fS)), (aA, .inl (K.1, 124, .inl fA)), (aB, .inl (K.1, 124, .inl fB)), (aN, .inl (K.1, 124, .inl fN)), (aM, .inl (K.1, 124, .inl fM)), (aL, .inl (K.2.1, 62, .inl fL))] H := hP
  have hD : va_D A [(h0, .inr (2, [.int 0, .long seed, .long w, .int (nI cnt), .int vb, .int pl, .int vs, .ref aS, .ref aA, .ref aB, .ref aN, .ref aM, .ref aL, .int wa, .int fo, .int se])), (aS, .inl (K.1, 124, .inl fS)), (aA, .inl (K.1, 124, .inl fA)), (aB, .inl (K.1, 124, .inl fB)), (aN, .inl (K.1, 124, .inl fN)), (aM, .inl (K.1, 124, .inl fM)), (aL, .inl (K.2.1, 62, .inl fL))] := hD
  refine lv_iload_n hx hb d_M_draw_5 rfl (lv_at hl 1 rfl) ?_
  refine lv_iload_n hx hb d_M_draw_6 rfl (lv_at hl 2 rfl) ?_
  refine cx_ci (wr := [(h0, .inr (2, [.int 0, .long seed, .long w, .int (nI cnt), .int vb, .int pl, .int vs, .ref aS, .ref aA, .ref aB, .ref aN, .ref aM, .ref aL, .int wa, .int fo, .int se])), (aS, .inl (K.1, 124, .inl fS)), (aA, .inl (K.1, 124, .inl fA)), (aB, .inl (K.1, 124, .inl fB)), (aN, .inl (K.1, 124, .inl fN)), (aM, .inl (K.1, 124, .inl fM)), (aL, .inl (K.2.1, 62, .inl fL))]) (wN := [(h0, .inr (2, [.int 0, .long seed, .long w, .int (nI cnt), .int vb, .int pl, .int vs, .ref aS, .ref aA, .ref aB, .ref aN, .ref aM, .ref aL, .int wa, .int fo, .int se])), (aS, .inl (K.1, 124, .inl fS)), (aA, .inl (K.1, 124, .inl fA)), (aB, .inl (K.1, 124, .inl fB)), (aN, .inl (K.1, 124, .inl fN)), (aM, .inl (K.1, 124, .inl fM)), (aL, .inl (K.2.1, 62, .inl fL))]) (va_runS (As := [.int (nI kk), .int (nI zz)]) (rest := []) ⟨hx, hb, hml, hown, hw⟩ (c_M_isSuch l G D K H.size (nI kk) (nI zz)) (va_cwS 2 hw (cx_gS k_356 k_357 k_3 k_358) rfl rfl rfl (by decide +kernel) ⟨Nat.le_of_ble_eq_true rfl, Nat.le_of_ble_eq_true rfl⟩) (cx_pre hK hP hD hS hA hE [] rfl rfl (by decide)) rfl rfl hl.1 rfl (lv_room (Nat.le_of_ble_eq_true rfl)) d_M_draw_7 ⟨Nat.le_of_ble_eq_true rfl, Nat.le_of_ble_eq_true rfl⟩) hP hD hS hA [] [0, 1, 2, 3, 4, 5, 6] rfl rfl (by decide) (by decide) [0, 1, 2, 3, 4, 5, 6] rfl rfl (by decide) (fun H locs hP hD hS => ?_)
  refine cx_ti (y := 1) (bd_can_in hkk hzz) ?_
  refine lv_if_ne (tgt := 16) hx hb d_M_draw_10 (by decide) (fun r_10 => ?_) (fun r_10 => ?_)
  · have c_10 := r_10
    refine lv_aload_n hx hb d_M_draw_16 rfl (lv_at hl 0 rfl) ?_
    refine lv_aload_n hx hb d_M_draw_17 rfl (lv_at hl 0 rfl) ?_
    refine va_get (D := D) (ci := 2) (v := .long seed) (C := "BuildDrawerModel") (T := TM) (N := 16) hx hb hw inM hown hK hP 0 rfl rfl 1 (by decide) (hw _ k_304) (fun _ h9 => h9) rfl d_M_draw_18 ?_
    refine lv_iload_n hx hb d_M_draw_21 rfl (lv_at hl 1 rfl) ?_
    refine lv_iload_n hx hb d_M_draw_22 rfl (lv_at hl 2 rfl) ?_
    refine lv_iconst (v := 0) hx hb d_M_draw_23 (by decide) ?_
    refine cx_cv (wr := [(aL, .inl (K.2.1, 62, .inl fL))]) (wN := [(h0, .inr (2, [.int 0, .long seed, .long (bd_gW seed kk zz (zz + 2)), .int (nI cnt), .int vb, .int (bd_pl seed (nI kk) (nI zz)), .int vs, .ref aS, .ref aA, .ref aB, .ref aN, .ref aM, .ref aL, .int wa, .int fo, .int se])), (aS, .inl (K.1, 124, .inl (bd_fio (bd_gS seed kk zz) 0 (zz + 2) fS))), (aA, .inl (K.1, 124, .inl (bd_fio (bd_gA seed kk zz) 0 (zz + 2) fA))), (aB, .inl (K.1, 124, .inl (bd_fio (bd_gB seed kk zz) 0 (zz + 2) fB))), (aN, .inl (K.1, 124, .inl (bd_fio (bd_gN seed kk zz) 0 (zz + 2) fN))), (aM, .inl (K.1, 124, .inl (bd_fio (bd_gM seed kk zz) 0 (zz + 2) fM))), (aL, .inl (K.2.1, 62, .inl fL))]) (va_runV (As := [.long seed, .int (nI kk), .int (nI zz), .int 0]) (rest := []) ⟨hx, hb, hml, hown, hw⟩ (c_M_fill l G D K H.size h0 0 seed w cnt vb pl vs aS aA aB aN aM aL wa fo se fS fA fB fN fM seed kk zz 0 (by omega) (by omega) (by omega)) (cwV 4 hw (cx_gV k_359 k_361 ks_M_fill k_3 k_362) rfl rfl rfl (by decide +kernel) ⟨Nat.le_of_ble_eq_true rfl, Nat.le_of_ble_eq_true rfl⟩) (cx_preV (q0 := 0) (ci := 2) hK hP hD hS hA hE rfl rfl [0, 1, 2, 3, 4, 5] rfl rfl (by decide)) rfl rfl hl.1 rfl (lv_room (Nat.le_of_ble_eq_true rfl)) d_M_draw_24 ⟨Nat.le_of_ble_eq_true rfl, Nat.le_of_ble_eq_true rfl⟩) hP hD hS hA [0, 1, 2, 3, 4, 5] [6] rfl rfl (by decide) (by decide) [1, 2, 3, 4, 5, 6, 0] rfl rfl (by decide) (fun H locs hP hD hS => ?_)
    refine lv_aload_n hx hb d_M_draw_27 rfl (lv_at hl 0 rfl) ?_
    refine lv_iload_n hx hb d_M_draw_28 rfl (lv_at hl 2 rfl) ?_
    refine lv_iconst (v := 2) hx hb d_M_draw_29 (by decide) ?_
    refine lv_iadd hx hb d_M_draw_30 ?_
    refine cx_ti (y := nI (zz + 2)) (by exact nI_add zz 2) ?_
    refine va_put (D := D) (ci := 2) (v := .int (nI (zz + 2))) (ty := .int) (C := "BuildDrawerModel") (T := TM) (N := 16) hx hb hw inM tyM tyM_ok nmM hown hK hP hD hS 0 rfl rfl 3 (by decide) (hw _ k_306) (fun _ h9 => h9) rfl (by decide +kernel) rfl rfl (Nat.le_of_ble_eq_true rfl) d_M_draw_31 (fun H locs hP hD hS => ?_)
    have hP : va_P D vwCl [(h0, .inr (2, [.int 0, .long seed, .long (bd_gW seed kk zz (zz + 2)), .int (nI (zz + 2)), .int vb, .int (bd_pl seed (nI kk) (nI zz)), .int vs, .ref aS, .ref aA, .ref aB, .ref aN, .ref aM, .ref aL, .int wa, .int fo, .int se])), (aS, .inl (K.1, 124, .inl (bd_fio (bd_gS seed kk zz) 0 (zz + 2) fS))), (aA, .inl (K.1, 124, .inl (bd_fio (bd_gA seed kk zz) 0 (zz + 2) fA))), (aB, .inl (K.1, 124, .inl (bd_fio (bd_gB seed kk zz) 0 (zz + 2) fB))), (aN, .inl (K.1, 124, .inl (bd_fio (bd_gN seed kk zz) 0 (zz + 2) fN))), (aM, .inl (K.1, 124, .inl (bd_fio (bd_gM seed kk zz) 0 (zz + 2) fM))), (aL, .inl (K.2.1, 62, .inl fL))] H := hP
    have hD : va_D A [(h0, .inr (2, [.int 0, .long seed, .long (bd_gW seed kk zz (zz + 2)), .int (nI (zz + 2)), .int vb, .int (bd_pl seed (nI kk) (nI zz)), .int vs, .ref aS, .ref aA, .ref aB, .ref aN, .ref aM, .ref aL, .int wa, .int fo, .int se])), (aS, .inl (K.1, 124, .inl (bd_fio (bd_gS seed kk zz) 0 (zz + 2) fS))), (aA, .inl (K.1, 124, .inl (bd_fio (bd_gA seed kk zz) 0 (zz + 2) fA))), (aB, .inl (K.1, 124, .inl (bd_fio (bd_gB seed kk zz) 0 (zz + 2) fB))), (aN, .inl (K.1, 124, .inl (bd_fio (bd_gN seed kk zz) 0 (zz + 2) fN))), (aM, .inl (K.1, 124, .inl (bd_fio (bd_gM seed kk zz) 0 (zz + 2) fM))), (aL, .inl (K.2.1, 62, .inl fL))] := hD
    refine lv_iconst (v := 0) hx hb d_M_draw_34 (by decide) ?_
    refine lv_istore_n (lv' := [(3, .int 0), (0, .ref h0), (1, .int (nI kk)), (2, .int (nI zz))]) hx hb d_M_draw_35 rfl hl (by decide) rfl (fun ls hl => ?_)
    have hP : va_P D vwCl [(h0, .inr (2, [.int 0, .long seed, .long (bd_gW seed kk zz (zz + 2)), .int (nI (zz + 2)), .int vb, .int (bd_pl seed (nI kk) (nI zz)), .int vs, .ref aS, .ref aA, .ref aB, .ref aN, .ref aM, .ref aL, .int wa, .int fo, .int se])), (aS, .inl (K.1, 124, .inl (bd_fio (bd_gS seed kk zz) 0 (zz + 2) fS))), (aA, .inl (K.1, 124, .inl (bd_fio (bd_gA seed kk zz) 0 (zz + 2) fA))), (aB, .inl (K.1, 124, .inl (bd_fio (bd_gB seed kk zz) 0 (zz + 2) fB))), (aN, .inl (K.1, 124, .inl (bd_fio (bd_gN seed kk zz) 0 (zz + 2) fN))), (aM, .inl (K.1, 124, .inl (bd_fio (bd_gM seed kk zz) 0 (zz + 2) fM))), (aL, .inl (K.2.1, 62, .inl (bd_all 0 fL)))] H := by rw [bd_all, bd_fil0]; exact hP
    have hD : va_D A [(h0, .inr (2, [.int 0, .long seed, .long (bd_gW seed kk zz (zz + 2)), .int (nI (zz + 2)), .int vb, .int (bd_pl seed (nI kk) (nI zz)), .int vs, .ref aS, .ref aA, .ref aB, .ref aN, .ref aM, .ref aL, .int wa, .int fo, .int se])), (aS, .inl (K.1, 124, .inl (bd_fio (bd_gS seed kk zz) 0 (zz + 2) fS))), (aA, .inl (K.1, 124, .inl (bd_fio (bd_gA seed kk zz) 0 (zz + 2) fA))), (aB, .inl (K.1, 124, .inl (bd_fio (bd_gB seed kk zz) 0 (zz + 2) fB))), (aN, .inl (K.1, 124, .inl (bd_fio (bd_gN seed kk zz) 0 (zz + 2) fN))), (aM, .inl (K.1, 124, .inl (bd_fio (bd_gM seed kk zz) 0 (zz + 2) fM))), (aL, .inl (K.2.1, 62, .inl (bd_all 0 fL)))] := by rw [bd_all, bd_fil0]; exact hD
    refine cx_loop (pc := 36) (st := []) (fun (i : Nat) H locs ls => (i ≤ zz + 2) ∧ va_P D vwCl [(h0, .inr (2, [.int 0, .long seed, .long (bd_gW seed kk zz (zz + 2)), .int (nI (zz + 2)), .int vb, .int (bd_pl seed (nI kk) (nI zz)), .int vs, .ref aS, .ref aA, .ref aB, .ref aN, .ref aM, .ref aL, .int wa, .int fo, .int se])), (aS, .inl (K.1, 124, .inl (bd_fio (bd_gS seed kk zz) 0 (zz + 2) fS))), (aA, .inl (K.1, 124, .inl (bd_fio (bd_gA seed kk zz) 0 (zz + 2) fA))), (aB, .inl (K.1, 124, .inl (bd_fio (bd_gB seed kk zz) 0 (zz + 2) fB))), (aN, .inl (K.1, 124, .inl (bd_fio (bd_gN seed kk zz) 0 (zz + 2) fN))), (aM, .inl (K.1, 124, .inl (bd_fio (bd_gM seed kk zz) 0 (zz + 2) fM))), (aL, .inl (K.2.1, 62, .inl (bd_all i fL)))] H ∧ va_D A [(h0, .inr (2, [.int 0, .long seed, .long (bd_gW seed kk zz (zz + 2)), .int (nI (zz + 2)), .int vb, .int (bd_pl seed (nI kk) (nI zz)), .int vs, .ref aS, .ref aA, .ref aB, .ref aN, .ref aM, .ref aL, .int wa, .int fo, .int se])), (aS, .inl (K.1, 124, .inl (bd_fio (bd_gS seed kk zz) 0 (zz + 2) fS))), (aA, .inl (K.1, 124, .inl (bd_fio (bd_gA seed kk zz) 0 (zz + 2) fA))), (aB, .inl (K.1, 124, .inl (bd_fio (bd_gB seed kk zz) 0 (zz + 2) fB))), (aN, .inl (K.1, 124, .inl (bd_fio (bd_gN seed kk zz) 0 (zz + 2) fN))), (aM, .inl (K.1, 124, .inl (bd_fio (bd_gM seed kk zz) 0 (zz + 2) fM))), (aL, .inl (K.2.1, 62, .inl (bd_all i fL)))] ∧ va_S A s.heap H locs ∧ lv_has ls 4 [(3, .int (nI i)), (0, .ref h0)]) (fun (i : Nat) => zz + 2 - i) (fun z H locs ls hI ih_36 => ?_) 0 ⟨Nat.zero_le _, hP, hD, hS, lv_sub hl [0, 1] rfl⟩
    obtain ⟨i, rfl⟩ : ∃ y, y = z := ⟨_, rfl⟩
    obtain ⟨hi, hP, hD, hS, hl⟩ := hI
    have hP : va_P D vwCl [(h0, .inr (2, [.int 0, .long seed, .long (bd_gW seed kk zz (zz + 2)), .int (nI (zz + 2)), .int vb, .int (bd_pl seed (nI kk) (nI zz)), .int vs, .ref aS, .ref aA, .ref aB, .ref aN, .ref aM, .ref aL, .int wa, .int fo, .int se])), (aS, .inl (K.1, 124, .inl (bd_fio (bd_gS seed kk zz) 0 (zz + 2) fS))), (aA, .inl (K.1, 124, .inl (bd_fio (bd_gA seed kk zz) 0 (zz + 2) fA))), (aB, .inl (K.1, 124, .inl (bd_fio (bd_gB seed kk zz) 0 (zz + 2) fB))), (aN, .inl (K.1, 124, .inl (bd_fio (bd_gN seed kk zz) 0 (zz + 2) fN))), (aM, .inl (K.1, 124, .inl (bd_fio (bd_gM seed kk zz) 0 (zz + 2) fM))), (aL, .inl (K.2.1, 62, .inl (bd_all i fL)))] H := hP
    have hD : va_D A [(h0, .inr (2, [.int 0, .long seed, .long (bd_gW seed kk zz (zz + 2)), .int (nI (zz + 2)), .int vb, .int (bd_pl seed (nI kk) (nI zz)), .int vs, .ref aS, .ref aA, .ref aB, .ref aN, .ref aM, .ref aL, .int wa, .int fo, .int se])), (aS, .inl (K.1, 124, .inl (bd_fio (bd_gS seed kk zz) 0 (zz + 2) fS))), (aA, .inl (K.1, 124, .inl (bd_fio (bd_gA seed kk zz) 0 (zz + 2) fA))), (aB, .inl (K.1, 124, .inl (bd_fio (bd_gB seed kk zz) 0 (zz + 2) fB))), (aN, .inl (K.1, 124, .inl (bd_fio (bd_gN seed kk zz) 0 (zz + 2) fN))), (aM, .inl (K.1, 124, .inl (bd_fio (bd_gM seed kk zz) 0 (zz + 2) fM))), (aL, .inl (K.2.1, 62, .inl (bd_all i fL)))] := hD
    have hl : lv_has ls 4 [(3, .int (nI i)), (0, .ref h0)] := hl
    refine lv_iload_n hx hb d_M_draw_36 rfl (lv_at hl 0 rfl) ?_
    refine lv_aload_n hx hb d_M_draw_37 rfl (lv_at hl 1 rfl) ?_
    refine va_get (D := D) (ci := 2) (v := .int (nI (zz + 2))) (C := "BuildDrawerModel") (T := TM) (N := 16) hx hb hw inM hown hK hP 0 rfl rfl 3 (by decide) (hw _ k_306) (fun _ h9 => h9) rfl d_M_draw_38 ?_
    refine lv_icmp_ge (tgt := 57) hx hb d_M_draw_41 (by decide) (fun r_41 => ?_) (fun r_41 => ?_)
    · have c_41 := (nI_leI (a := (zz + 2)) (b := i) (by omega) (by omega)).mp r_41
      refine lv_aload_n hx hb d_M_draw_57 rfl (lv_at hl 1 rfl) ?_
      refine va_get (D := D) (ci := 2) (v := .int (nI (zz + 2))) (C := "BuildDrawerModel") (T := TM) (N := 16) hx hb hw inM hown hK hP 0 rfl rfl 3 (by decide) (hw _ k_306) (fun _ h9 => h9) rfl d_M_draw_58 ?_
      exact cx_iret hx hb hr hlocks hK hP hD hS d_M_draw_61 (rfl) (by rw [show i = zz + 2 by omega])
    · have c_41 := mt (nI_leI (a := (zz + 2)) (b := i) (by omega) (by omega)).mpr r_41
      refine lv_aload_n hx hb d_M_draw_44 rfl (lv_at hl 1 rfl) ?_
      refine va_get (D := D) (ci := 2) (v := .ref aL) (C := "BuildDrawerModel") (T := TM) (N := 16) hx hb hw inM hown hK hP 0 rfl rfl 12 (by decide) (hw _ k_315) (fun _ h9 => h9) rfl d_M_draw_45 ?_
      refine lv_iload_n hx hb d_M_draw_48 rfl (lv_at hl 0 rfl) ?_
      refine lv_iconst (v := 1) hx hb d_M_draw_49 (by decide) ?_
      refine va_zast hx hb hK hP hD hS 6 1 rfl rfl (vp_in_nI (n := i) (by omega) (by omega)) d_M_draw_50 (fun H locs hP hD hS => ?_)
      have e_50 : upd (bd_all i fL) (nI i).toNatClampNeg (vp_nar .boolean 1) = bd_all (i + 1) fL := by rw [nI_clamp (by omega)]; exact bd_filS _ _ _ rfl
      have hP : va_P D vwCl [(h0, .inr (2, [.int 0, .long seed, .long (bd_gW seed kk zz (zz + 2)), .int (nI (zz + 2)), .int vb, .int (bd_pl seed (nI kk) (nI zz)), .int vs, .ref aS, .ref aA, .ref aB, .ref aN, .ref aM, .ref aL, .int wa, .int fo, .int se])), (aS, .inl (K.1, 124, .inl (bd_fio (bd_gS seed kk zz) 0 (zz + 2) fS))), (aA, .inl (K.1, 124, .inl (bd_fio (bd_gA seed kk zz) 0 (zz + 2) fA))), (aB, .inl (K.1, 124, .inl (bd_fio (bd_gB seed kk zz) 0 (zz + 2) fB))), (aN, .inl (K.1, 124, .inl (bd_fio (bd_gN seed kk zz) 0 (zz + 2) fN))), (aM, .inl (K.1, 124, .inl (bd_fio (bd_gM seed kk zz) 0 (zz + 2) fM))), (aL, .inl (K.2.1, 62, .inl (upd (bd_all i fL) (nI i).toNatClampNeg (vp_nar .boolean 1))))] H := hP
      have hD : va_D A [(h0, .inr (2, [.int 0, .long seed, .long (bd_gW seed kk zz (zz + 2)), .int (nI (zz + 2)), .int vb, .int (bd_pl seed (nI kk) (nI zz)), .int vs, .ref aS, .ref aA, .ref aB, .ref aN, .ref aM, .ref aL, .int wa, .int fo, .int se])), (aS, .inl (K.1, 124, .inl (bd_fio (bd_gS seed kk zz) 0 (zz + 2) fS))), (aA, .inl (K.1, 124, .inl (bd_fio (bd_gA seed kk zz) 0 (zz + 2) fA))), (aB, .inl (K.1, 124, .inl (bd_fio (bd_gB seed kk zz) 0 (zz + 2) fB))), (aN, .inl (K.1, 124, .inl (bd_fio (bd_gN seed kk zz) 0 (zz + 2) fN))), (aM, .inl (K.1, 124, .inl (bd_fio (bd_gM seed kk zz) 0 (zz + 2) fM))), (aL, .inl (K.2.1, 62, .inl (upd (bd_all i fL) (nI i).toNatClampNeg (vp_nar .boolean 1))))] := hD
      rw [e_50] at hP hD
      have hP : va_P D vwCl [(h0, .inr (2, [.int 0, .long seed, .long (bd_gW seed kk zz (zz + 2)), .int (nI (zz + 2)), .int vb, .int (bd_pl seed (nI kk) (nI zz)), .int vs, .ref aS, .ref aA, .ref aB, .ref aN, .ref aM, .ref aL, .int wa, .int fo, .int se])), (aS, .inl (K.1, 124, .inl (bd_fio (bd_gS seed kk zz) 0 (zz + 2) fS))), (aA, .inl (K.1, 124, .inl (bd_fio (bd_gA seed kk zz) 0 (zz + 2) fA))), (aB, .inl (K.1, 124, .inl (bd_fio (bd_gB seed kk zz) 0 (zz + 2) fB))), (aN, .inl (K.1, 124, .inl (bd_fio (bd_gN seed kk zz) 0 (zz + 2) fN))), (aM, .inl (K.1, 124, .inl (bd_fio (bd_gM seed kk zz) 0 (zz + 2) fM))), (aL, .inl (K.2.1, 62, .inl (bd_all (i + 1) fL)))] H := hP
      have hD : va_D A [(h0, .inr (2, [.int 0, .long seed, .long (bd_gW seed kk zz (zz + 2)), .int (nI (zz + 2)), .int vb, .int (bd_pl seed (nI kk) (nI zz)), .int vs, .ref aS, .ref aA, .ref aB, .ref aN, .ref aM, .ref aL, .int wa, .int fo, .int se])), (aS, .inl (K.1, 124, .inl (bd_fio (bd_gS seed kk zz) 0 (zz + 2) fS))), (aA, .inl (K.1, 124, .inl (bd_fio (bd_gA seed kk zz) 0 (zz + 2) fA))), (aB, .inl (K.1, 124, .inl (bd_fio (bd_gB seed kk zz) 0 (zz + 2) fB))), (aN, .inl (K.1, 124, .inl (bd_fio (bd_gN seed kk zz) 0 (zz + 2) fN))), (aM, .inl (K.1, 124, .inl (bd_fio (bd_gM seed kk zz) 0 (zz + 2) fM))), (aL, .inl (K.2.1, 62, .inl (bd_all (i + 1) fL)))] := hD
      refine lv_iinc (v := nI (i + 1)) (lv' := [(3, .int (nI (i + 1))), (0, .ref h0)]) hx hb d_M_draw_51 hl (k := 0) rfl (by exact cx_inc i) (by decide) rfl (fun ls hl => ?_)
      refine lv_goto (tgt := 36) hx hb d_M_draw_54 (by decide) ?_
      exact ih_36 (i + 1) _ _ _ ⟨(by omega), hP, hD, hS, lv_sub hl [0, 1] rfl⟩ (by omega)
  · have c_10 := r_10
    exact absurd r_10 (by decide)
set_option maxHeartbeats 4000000 in
set_option maxRecDepth 100000 in
theorem c_M_drawN (l : Launch) (G : cx_G) (D : va_G) (K : cx_KT) (sz : Nat) (h0 : Nat) (cd : Int32) (seed : Int64) (w : Int64) (cnt : Nat) (vb : Int32) (pl : Int32) (vs : Int32) (aS : Nat) (aA : Nat) (aB : Nat) (aN : Nat) (aM : Nat) (aL : Nat) (wa : Int32) (fo : Int32) (se : Int32) (k : Int32) (z : Int32) (hno : bd_can k z = 0) : Met l y_M_draw w_M_draw ({ frames := 1, cells := 0, slots := 0, locals := 21 }) (cx_Pc G D (cx_ty K) [(h0, .inr (2, [.int cd, .long seed, .long w, .int (nI cnt), .int vb, .int pl, .int vs, .ref aS, .ref aA, .ref aB, .ref aN, .ref aM, .ref aL, .int wa, .int fo, .int se]))] sz [.ref h0, .int k, .int z]) (cx_Qi (-2) D (cx_ty K) [(h0, .inr (2, [.int 0, .long seed, .long w, .int (nI cnt), .int vb, .int pl, .int vs, .ref aS, .ref aA, .ref aB, .ref aN, .ref aM, .ref aL, .int wa, .int fo, .int se]))] (va_A [(h0, .inr (2, [.int cd, .long seed, .long w, .int (nI cnt), .int vb, .int pl, .int vs, .ref aS, .ref aA, .ref aB, .ref aN, .ref aM, .ref aL, .int wa, .int fo, .int se]))] sz)) 0 0 (va_A [(h0, .inr (2, [.int cd, .long seed, .long w, .int (nI cnt), .int vb, .int pl, .int vs, .ref aS, .ref aA, .ref aB, .ref aN, .ref aM, .ref aL, .int wa, .int fo, .int se]))] sz) := by
  refine Met.ofW (cc := prog_4_method_8_code) (maxL := 4) (ret := (some .int)) (by decide) rfl ?_
  intro p e s m args below meth c s₁ B hml hv
  obtain ⟨rfl, hsz, hP, hK, hD0, hE⟩ := hv
  have hx := B.exec
  have hb := B.bytes
  have hr := B.returns
  have hts := atoms_spec (ws := w_M_draw) B.pre
  have hw : ∀ w ∈ cw, w.before _ s = true := fun w h => hts w (List.mem_cons_of_mem _ h)
  have hown : s.vm.findClass "BuildDrawerModel" = some m.cls := findClass_of_methodNamed B.named
  have hlocks := B.notSynchronized
  subst hsz
  have hD := hD0.self (sz := s.heap.size)
  generalize hAe : va_A [(h0, .inr (2, [.int cd, .long seed, .long w, .int (nI cnt), .int vb, .int pl, .int vs, .ref aS, .ref aA, .ref aB, .ref aN, .ref aM, .ref aL, .int wa, .int fo, .int se]))] s.heap.size = A at hD hE ⊢
  have hA : ∀ q : Nat, s.heap.size ≤ q → A q := fun q h => by rw [← hAe]; exact Or.inr h
  have hS : va_S A s.heap s.heap [] := va_S.rf
  have hl := lv_entry ([.ref h0, .int k, .int z]) (n := 4) (Nat.le_of_ble_eq_true rfl)
  rw [lg_entry_eq]
  generalize (lg_sl ([.ref h0, .int k, .int z]) ++ List.replicate (4 - (lg_sl ([.ref h0, .int k, .int z])).length) Slot.unset).toArray = ls at hl ⊢
  have hl : lv_has ls 4 [(0, .ref h0), (1, .int k), (2, .int z)] := hl
  refine lv_aload_n hx hb d_M_draw_0 rfl (lv_at hl 0 rfl) ?_
  refine lv_iconst (v := 0) hx hb d_M_draw_1 (by decide) ?_
  refine va_put (D := D) (ci := 2) (v := .int 0) (ty := .int) (C := "BuildDrawerModel") (T := TM) (N := 16) hx hb hw inM tyM tyM_ok nmM hown hK hP hD hS 0 rfl rfl 0 (by decide) (hw _ k_303) (fun _ h9 => h9) rfl (by decide +kernel) rfl rfl (Nat.le_of_ble_eq_true rfl) d_M_draw_2 (fun H locs hP hD hS => ?_)
  have hP : va_P D vwCl [(h0, .inr (2, [.int 0, .long seed, .long w, .int (nI cnt), .int vb, .int pl, .int vs, .ref aS, .ref aA, .ref aB, .ref aN, .ref aM, .ref aL, .int wa, .int fo, .int se]))] H := hP
  have hD : va_D A [(h0, .inr (2, [.int 0, .long seed, .long w, .int (nI cnt), .int vb, .int pl, .int vs, .ref aS, .ref aA, .ref aB, .ref aN, .ref aM, .ref aL, .int wa, .int fo, .int se]))] := hD
  refine lv_iload_n hx hb d_M_draw_5 rfl (lv_at hl 1 rfl) ?_
  refine lv_iload_n hx hb d_M_draw_6 rfl (lv_at hl 2 rfl) ?_
  refine cx_ci (wr := [(h0, .inr (2, [.int 0, .long seed, .long w, .int (nI cnt), .int vb, .int pl, .int vs, .ref aS, .ref aA, .ref aB, .ref aN, .ref aM, .ref aL, .int wa, .int fo, .int se]))]) (wN := [(h0, .inr (2, [.int 0, .long seed, .long w, .int (nI cnt), .int vb, .int pl, .int vs, .ref aS, .ref aA, .ref aB, .ref aN, .ref aM, .ref aL, .int wa, .int fo, .int se]))]) (va_runS (As := [.int k, .int z]) (rest := []) ⟨hx, hb, hml, hown, hw⟩ (c_M_isSuch l G D K H.size k z) (va_cwS 2 hw (cx_gS k_356 k_357 k_3 k_358) rfl rfl rfl (by decide +kernel) ⟨Nat.le_of_ble_eq_true rfl, Nat.le_of_ble_eq_true rfl⟩) (cx_pre hK hP hD hS hA hE [] rfl rfl (by decide)) rfl rfl hl.1 rfl (lv_room (Nat.le_of_ble_eq_true rfl)) d_M_draw_7 ⟨Nat.le_of_ble_eq_true rfl, Nat.le_of_ble_eq_true rfl⟩) hP hD hS hA [] [0] rfl rfl (by decide) (by decide) [0] rfl rfl (by decide) (fun H locs hP hD hS => ?_)
  refine lv_if_ne (tgt := 16) hx hb d_M_draw_10 (by decide) (fun r_10 => ?_) (fun r_10 => ?_)
  · have c_10 := r_10
    exact absurd hno r_10
  · have c_10 := r_10
    refine lv_bipush (v := (-2)) hx hb d_M_draw_13 (by decide) ?_
    exact cx_iret hx hb hr hlocks hK hP hD hS d_M_draw_15 (rfl) (rfl)
set_option maxHeartbeats 4000000 in
set_option maxRecDepth 100000 in
theorem c_M_left (l : Launch) (G : cx_G) (D : va_G) (K : cx_KT) (sz : Nat) (h0 : Nat) (cd : Int32) (seed : Int64) (w : Int64) (cnt : Nat) (vb : Int32) (pl : Int32) (vs : Int32) (aS : Nat) (aA : Nat) (aB : Nat) (aN : Nat) (aM : Nat) (aL : Nat) (wa : Int32) (fo : Int32) (se : Int32) (fL : Nat → Int32) (i : Int32) (hcnt : cnt ≤ 62) : Met l y_M_left w_M_left ({ frames := 0, cells := 0, slots := 0, locals := 0 }) (cx_Pc G D (cx_ty K) [(h0, .inr (2, [.int cd, .long seed, .long w, .int (nI cnt), .int vb, .int pl, .int vs, .ref aS, .ref aA, .ref aB, .ref aN, .ref aM, .ref aL, .int wa, .int fo, .int se])), (aL, .inl (K.2.1, 62, .inl fL))] sz [.ref h0, .int i]) (cx_Qi (bd_left fL cnt i) D (cx_ty K) [(h0, .inr (2, [.int 0, .long seed, .long w, .int (nI cnt), .int vb, .int pl, .int vs, .ref aS, .ref aA, .ref aB, .ref aN, .ref aM, .ref aL, .int wa, .int fo, .int se])), (aL, .inl (K.2.1, 62, .inl fL))] (va_A [(h0, .inr (2, [.int cd, .long seed, .long w, .int (nI cnt), .int vb, .int pl, .int vs, .ref aS, .ref aA, .ref aB, .ref aN, .ref aM, .ref aL, .int wa, .int fo, .int se])), (aL, .inl (K.2.1, 62, .inl fL))] sz)) 0 0 (va_A [(h0, .inr (2, [.int cd, .long seed, .long w, .int (nI cnt), .int vb, .int pl, .int vs, .ref aS, .ref aA, .ref aB, .ref aN, .ref aM, .ref aL, .int wa, .int fo, .int se])), (aL, .inl (K.2.1, 62, .inl fL))] sz) := by
  refine Met.ofW (cc := prog_4_method_16_code) (maxL := 4) (ret := (some .int)) (by decide) rfl ?_
  intro p e s m args below meth c s₁ B hml hv
  obtain ⟨rfl, hsz, hP, hK, hD0, hE⟩ := hv
  have hx := B.exec
  have hb := B.bytes
  have hr := B.returns
  have hts := atoms_spec (ws := w_M_left) B.pre
  have hw : ∀ w ∈ cw, w.before _ s = true := fun w h => hts w (List.mem_cons_of_mem _ h)
  have hown : s.vm.findClass "BuildDrawerModel" = some m.cls := findClass_of_methodNamed B.named
  have hlocks := B.notSynchronized
  subst hsz
  have hD := hD0.self (sz := s.heap.size)
  generalize hAe : va_A [(h0, .inr (2, [.int cd, .long seed, .long w, .int (nI cnt), .int vb, .int pl, .int vs, .ref aS, .ref aA, .ref aB, .ref aN, .ref aM, .ref aL, .int wa, .int fo, .int se])), (aL, .inl (K.2.1, 62, .inl fL))] s.heap.size = A at hD hE ⊢
  have hA : ∀ q : Nat, s.heap.size ≤ q → A q := fun q h => by rw [← hAe]; exact Or.inr h
  have hS : va_S A s.heap s.heap [] := va_S.rf
  have hl := lv_entry ([.ref h0, .int i]) (n := 4) (Nat.le_of_ble_eq_true rfl)
  rw [lg_entry_eq]
  generalize (lg_sl ([.ref h0, .int i]) ++ List.replicate (4 - (lg_sl ([.ref h0, .int i])).length) Slot.unset).toArray = ls at hl ⊢
  have hl : lv_has ls 4 [(0, .ref h0), (1, .int i)] := hl
  refine lv_aload_n hx hb d_M_left_0 rfl (lv_at hl 0 rfl) ?_
  refine lv_iconst (v := 0) hx hb d_M_left_1 (by decide) ?_
  refine va_put (D := D) (ci := 2) (v := .int 0) (ty := .int) (C := "BuildDrawerModel") (T := TM) (N := 16) hx hb hw inM tyM tyM_ok nmM hown hK hP hD hS 0 rfl rfl 0 (by decide) (hw _ k_303) (fun _ h9 => h9) rfl (by decide +kernel) rfl rfl (Nat.le_of_ble_eq_true rfl) d_M_left_2 (fun H locs hP hD hS => ?_)
  have hP : va_P D vwCl [(h0, .inr (2, [.int 0, .long seed, .long w, .int (nI cnt), .int vb, .int pl, .int vs, .ref aS, .ref aA, .ref aB, .ref aN, .ref aM, .ref aL, .int wa, .int fo, .int se])), (aL, .inl (K.2.1, 62, .inl fL))] H := hP
  have hD : va_D A [(h0, .inr (2, [.int 0, .long seed, .long w, .int (nI cnt), .int vb, .int pl, .int vs, .ref aS, .ref aA, .ref aB, .ref aN, .ref aM, .ref aL, .int wa, .int fo, .int se])), (aL, .inl (K.2.1, 62, .inl fL))] := hD
  refine lv_iload_n hx hb d_M_left_5 rfl (lv_at hl 1 rfl) ?_
  refine lv_istore_n (lv' := [(2, .int i), (0, .ref h0), (1, .int i)]) hx hb d_M_left_6 rfl hl (by decide) rfl (fun ls hl => ?_)
  refine lv_iconst (v := 0) hx hb d_M_left_7 (by decide) ?_
  refine lv_istore_n (lv' := [(3, .int 0), (2, .int i), (0, .ref h0), (1, .int i)]) hx hb d_M_left_8 rfl hl (by decide) rfl (fun ls hl => ?_)
  have hl : lv_has ls 4 [(3, .int (nI 0)), (2, .int (i - 0)), (0, .ref h0), (1, .int i)] := by rw [bd_subz]; exact hl
  refine cx_loop (pc := 9) (st := []) (fun (z : Nat × Int32) H locs ls => match z with | (j, b) => (j ≤ cnt) ∧ (bd_lg fL i (cnt - j) j b = bd_lg fL i cnt 0 0) ∧ va_P D vwCl [(h0, .inr (2, [.int 0, .long seed, .long w, .int (nI cnt), .int vb, .int pl, .int vs, .ref aS, .ref aA, .ref aB, .ref aN, .ref aM, .ref aL, .int wa, .int fo, .int se])), (aL, .inl (K.2.1, 62, .inl fL))] H ∧ va_D A [(h0, .inr (2, [.int 0, .long seed, .long w, .int (nI cnt), .int vb, .int pl, .int vs, .ref aS, .ref aA, .ref aB, .ref aN, .ref aM, .ref aL, .int wa, .int fo, .int se])), (aL, .inl (K.2.1, 62, .inl fL))] ∧ va_S A s.heap H locs ∧ lv_has ls 4 [(3, .int (nI j)), (2, .int (i - b)), (1, .int i), (0, .ref h0)]) (fun (z : Nat × Int32) => match z with | (j, b) => cnt - j) (fun z H locs ls hI ih_9 => ?_) (0, 0) ⟨Nat.zero_le _, rfl, hP, hD, hS, lv_sub hl [0, 1, 3, 2] rfl⟩
  obtain ⟨j, b⟩ := z
  obtain ⟨hj, hb9, hP, hD, hS, hl⟩ := hI
  have hP : va_P D vwCl [(h0, .inr (2, [.int 0, .long seed, .long w, .int (nI cnt), .int vb, .int pl, .int vs, .ref aS, .ref aA, .ref aB, .ref aN, .ref aM, .ref aL, .int wa, .int fo, .int se])), (aL, .inl (K.2.1, 62, .inl fL))] H := hP
  have hD : va_D A [(h0, .inr (2, [.int 0, .long seed, .long w, .int (nI cnt), .int vb, .int pl, .int vs, .ref aS, .ref aA, .ref aB, .ref aN, .ref aM, .ref aL, .int wa, .int fo, .int se])), (aL, .inl (K.2.1, 62, .inl fL))] := hD
  have hl : lv_has ls 4 [(3, .int (nI j)), (2, .int (i - b)), (1, .int i), (0, .ref h0)] := hl
  refine lv_iload_n hx hb d_M_left_9 rfl (lv_at hl 0 rfl) ?_
  refine lv_aload_n hx hb d_M_left_10 rfl (lv_at hl 3 rfl) ?_
  refine va_get (D := D) (ci := 2) (v := .int (nI cnt)) (C := "BuildDrawerModel") (T := TM) (N := 16) hx hb hw inM hown hK hP 0 rfl rfl 3 (by decide) (hw _ k_306) (fun _ h9 => h9) rfl d_M_left_11 ?_
  refine lv_icmp_ge (tgt := 48) hx hb d_M_left_14 (by decide) (fun r_14 => ?_) (fun r_14 => ?_)
  · have c_14 := (nI_leI (a := cnt) (b := j) (by omega) (by omega)).mp r_14
    refine lv_iconst (v := (-1)) hx hb d_M_left_48 (by decide) ?_
    exact cx_iret hx hb hr hlocks hK hP hD hS d_M_left_49 (by rw [bd_left, ← hb9, show cnt - j = 0 by omega, bd_lg, ite_self]) (rfl)
  · have c_14 := mt (nI_leI (a := cnt) (b := j) (by omega) (by omega)).mpr r_14
    refine lv_iload_n hx hb d_M_left_17 rfl (lv_at hl 2 rfl) ?_
    refine lv_if_lt (tgt := 48) hx hb d_M_left_18 (by decide) (fun r_18 => ?_) (fun r_18 => ?_)
    · have c_18 := r_18
      refine lv_iconst (v := (-1)) hx hb d_M_left_48 (by decide) ?_
      exact cx_iret hx hb hr hlocks hK hP hD hS d_M_left_49 (by rw [bd_left, if_pos r_18]) (rfl)
    · have c_18 := r_18
      refine lv_aload_n hx hb d_M_left_21 rfl (lv_at hl 3 rfl) ?_
      refine va_get (D := D) (ci := 2) (v := .ref aL) (C := "BuildDrawerModel") (T := TM) (N := 16) hx hb hw inM hown hK hP 0 rfl rfl 12 (by decide) (hw _ k_315) (fun _ h9 => h9) rfl d_M_left_22 ?_
      refine lv_iload_n hx hb d_M_left_25 rfl (lv_at hl 0 rfl) ?_
      refine va_zald hx hb hK hP 1 1 rfl rfl (vp_in_nI (n := j) (by omega) (by omega)) d_M_left_26 ?_
      refine cx_ti (y := fL j) (by rw [nI_clamp (by omega)]) ?_
      refine lv_if_ne (tgt := 33) hx hb d_M_left_27 (by decide) (fun r_27 => ?_) (fun r_27 => ?_)
      · have c_27 := r_27
        refine lv_iload_n hx hb d_M_left_33 rfl (lv_at hl 1 rfl) ?_
        refine lv_if_ne (tgt := 39) hx hb d_M_left_34 (by decide) (fun r_34 => ?_) (fun r_34 => ?_)
        · have c_34 := r_34
          have c_34 := mt (bd_sub0 i b).mpr r_34
          have e_i : bd_lg fL i (cnt - (j + 1) + 1) j b = bd_lg fL i (cnt - (j + 1)) (j + 1) (b + 1) := by rw [bd_lg, if_neg r_27, if_neg c_34]
          refine lv_iinc (v := i - (b + 1)) (lv' := [(2, .int (i - (b + 1))), (3, .int (nI j)), (1, .int i), (0, .ref h0)]) hx hb d_M_left_39 hl (k := 1) rfl (by exact bd_subS i b) (by decide) rfl (fun ls hl => ?_)
          refine lv_iinc (v := nI (j + 1)) (lv' := [(3, .int (nI (j + 1))), (2, .int (i - (b + 1))), (1, .int i), (0, .ref h0)]) hx hb d_M_left_42 hl (k := 1) rfl (by exact cx_inc j) (by decide) rfl (fun ls hl => ?_)
          refine lv_goto (tgt := 9) hx hb d_M_left_45 (by decide) ?_
          exact ih_9 ((j + 1), (b + 1)) _ _ _ ⟨(by omega), (by rw [← hb9, show cnt - j = (cnt - (j + 1)) + 1 by omega]; exact e_i.symm), hP, hD, hS, lv_sub hl [0, 1, 2, 3] rfl⟩ (show cnt - (j + 1) < cnt - j by omega)
        · have c_34 := r_34
          have c_34 := (bd_sub0 i b).mp r_34
          refine lv_iload_n hx hb d_M_left_37 rfl (lv_at hl 0 rfl) ?_
          exact cx_iret hx hb hr hlocks hK hP hD hS d_M_left_38 (by rw [bd_left, if_neg r_18, ← hb9, show cnt - j = (cnt - (j + 1)) + 1 by omega, bd_lg, if_neg r_27, if_pos c_34]) (rfl)
      · have c_27 := r_27
        have e_i : bd_lg fL i (cnt - (j + 1) + 1) j b = bd_lg fL i (cnt - (j + 1)) (j + 1) b := by rw [bd_lg, if_pos r_27]
        refine lv_goto (tgt := 42) hx hb d_M_left_30 (by decide) ?_
        refine lv_iinc (v := nI (j + 1)) (lv' := [(3, .int (nI (j + 1))), (2, .int (i - b)), (1, .int i), (0, .ref h0)]) hx hb d_M_left_42 hl (k := 0) rfl (by exact cx_inc j) (by decide) rfl (fun ls hl => ?_)
        refine lv_goto (tgt := 9) hx hb d_M_left_45 (by decide) ?_
        exact ih_9 ((j + 1), b) _ _ _ ⟨(by omega), (by rw [← hb9, show cnt - j = (cnt - (j + 1)) + 1 by omega]; exact e_i.symm), hP, hD, hS, lv_sub hl [0, 1, 2, 3] rfl⟩ (show cnt - (j + 1) < cnt - j by omega)
set_option maxHeartbeats 4000000 in
set_option maxRecDepth 100000 in
theorem c_M_minimal (l : Launch) (G : cx_G) (D : va_G) (K : cx_KT) (sz : Nat) (h0 : Nat) (cd : Int32) (seed : Int64) (w : Int64) (cnt : Nat) (vb : Int32) (pl : Int32) (vs : Int32) (aS : Nat) (aA : Nat) (aB : Nat) (aN : Nat) (aM : Nat) (aL : Nat) (wa : Int32) (fo : Int32) (se : Int32) (fL : Nat → Int32) (fN : Nat → Int32) (fM : Nat → Int32) (hcnt : cnt ≤ 62) : Met l y_M_minimal w_M_minimal ({ frames := 2, cells := 0, slots := 0, locals := 45 }) (cx_Pc G D (cx_ty K) [(h0, .inr (2, [.int cd, .long seed, .long w, .int (nI cnt), .int vb, .int pl, .int vs, .ref aS, .ref aA, .ref aB, .ref aN, .ref aM, .ref aL, .int wa, .int fo, .int se])), (aL, .inl (K.2.1, 62, .inl fL)), (aN, .inl (K.1, 124, .inl fN)), (aM, .inl (K.1, 124, .inl fM))] sz [.ref h0]) (cx_Qi (bd_mi (fun k => bd_cg fL fN fM vb vs cnt k) cnt 0) D (cx_ty K) [(h0, .inr (2, [.int 0, .long seed, .long w, .int (nI cnt), .int vb, .int pl, .int vs, .ref aS, .ref aA, .ref aB, .ref aN, .ref aM, .ref aL, .int wa, .int fo, .int se])), (aL, .inl (K.2.1, 62, .inl fL)), (aN, .inl (K.1, 124, .inl fN)), (aM, .inl (K.1, 124, .inl fM))] (va_A [(h0, .inr (2, [.int cd, .long seed, .long w, .int (nI cnt), .int vb, .int pl, .int vs, .ref aS, .ref aA, .ref aB, .ref aN, .ref aM, .ref aL, .int wa, .int fo, .int se])), (aL, .inl (K.2.1, 62, .inl fL)), (aN, .inl (K.1, 124, .inl fN)), (aM, .inl (K.1, 124, .inl fM))] sz)) 0 0 (va_A [(h0, .inr (2, [.int cd, .long seed, .long w, .int (nI cnt), .int vb, .int pl, .int vs, .ref aS, .ref aA, .ref aB, .ref aN, .ref aM, .ref aL, .int wa, .int fo, .int se])), (aL, .inl (K.2.1, 62, .inl fL)), (aN, .inl (K.1, 124, .inl fN)), (aM, .inl (K.1, 124, .inl fM))] sz) := by
  refine Met.ofW (cc := prog_4_method_15_code) (maxL := 3) (ret := (some .boolean)) (by decide) rfl ?_
  intro p e s m args below meth c s₁ B hml hv
  obtain ⟨rfl, hsz, hP, hK, hD0, hE⟩ := hv
  have hx := B.exec
  have hb := B.bytes
  have hr := B.returns
  have hts := atoms_spec (ws := w_M_minimal) B.pre
  have hw : ∀ w ∈ cw, w.before _ s = true := fun w h => hts w (List.mem_cons_of_mem _ h)
  have hown : s.vm.findClass "BuildDrawerModel" = some m.cls := findClass_of_methodNamed B.named
  have hlocks := B.notSynchronized
  subst hsz
  have hD := hD0.self (sz := s.heap.size)
  generalize hAe : va_A [(h0, .inr (2, [.int cd, .long seed, .long w, .int (nI cnt), .int vb, .int pl, .int vs, .ref aS, .ref aA, .ref aB, .ref aN, .ref aM, .ref aL, .int wa, .int fo, .int se])), (aL, .inl (K.2.1, 62, .inl fL)), (aN, .inl (K.1, 124, .inl fN)), (aM, .inl (K.1, 124, .inl fM))] s.heap.size = A at hD hE ⊢
  have hA : ∀ q : Nat, s.heap.size ≤ q → A q := fun q h => by rw [← hAe]; exact Or.inr h
  have hS : va_S A s.heap s.heap [] := va_S.rf
  have hl := lv_entry ([.ref h0]) (n := 3) (Nat.le_of_ble_eq_true rfl)
  rw [lg_entry_eq]
  generalize (lg_sl ([.ref h0]) ++ List.replicate (3 - (lg_sl ([.ref h0])).length) Slot.unset).toArray = ls at hl ⊢
  have hl : lv_has ls 3 [(0, .ref h0)] := hl
  refine lv_aload_n hx hb d_M_minimal_0 rfl (lv_at hl 0 rfl) ?_
  refine lv_iconst (v := 0) hx hb d_M_minimal_1 (by decide) ?_
  refine va_put (D := D) (ci := 2) (v := .int 0) (ty := .int) (C := "BuildDrawerModel") (T := TM) (N := 16) hx hb hw inM tyM tyM_ok nmM hown hK hP hD hS 0 rfl rfl 0 (by decide) (hw _ k_303) (fun _ h9 => h9) rfl (by decide +kernel) rfl rfl (Nat.le_of_ble_eq_true rfl) d_M_minimal_2 (fun H locs hP hD hS => ?_)
  have hP : va_P D vwCl [(h0, .inr (2, [.int 0, .long seed, .long w, .int (nI cnt), .int vb, .int pl, .int vs, .ref aS, .ref aA, .ref aB, .ref aN, .ref aM, .ref aL, .int wa, .int fo, .int se])), (aL, .inl (K.2.1, 62, .inl fL)), (aN, .inl (K.1, 124, .inl fN)), (aM, .inl (K.1, 124, .inl fM))] H := hP
  have hD : va_D A [(h0, .inr (2, [.int 0, .long seed, .long w, .int (nI cnt), .int vb, .int pl, .int vs, .ref aS, .ref aA, .ref aB, .ref aN, .ref aM, .ref aL, .int wa, .int fo, .int se])), (aL, .inl (K.2.1, 62, .inl fL)), (aN, .inl (K.1, 124, .inl fN)), (aM, .inl (K.1, 124, .inl fM))] := hD
  refine lv_iconst (v := 1) hx hb d_M_minimal_5 (by decide) ?_
  refine lv_istore_n (lv' := [(1, .int 1), (0, .ref h0)]) hx hb d_M_minimal_6 rfl hl (by decide) rfl (fun ls hl => ?_)
  refine lv_iconst (v := 0) hx hb d_M_minimal_7 (by decide) ?_
  refine lv_istore_n (lv' := [(2, .int 0), (1, .int 1), (0, .ref h0)]) hx hb d_M_minimal_8 rfl hl (by decide) rfl (fun ls hl => ?_)
  have hl : lv_has ls 3 [(2, .int (nI 0)), (1, .int (bd_mp (fun k => bd_cg fL fN fM vb vs cnt k) 0)), (0, .ref h0)] := by rw [show bd_mp (fun k => bd_cg fL fN fM vb vs cnt k) 0 = 1 from rfl]; exact hl
  refine cx_loop (pc := 9) (st := []) (fun (j : Nat) H locs ls => (j ≤ cnt) ∧ (bd_mp (fun k => bd_cg fL fN fM vb vs cnt k) j = 0 ∨ bd_mp (fun k => bd_cg fL fN fM vb vs cnt k) j = 1) ∧ va_P D vwCl [(h0, .inr (2, [.int 0, .long seed, .long w, .int (nI cnt), .int vb, .int pl, .int vs, .ref aS, .ref aA, .ref aB, .ref aN, .ref aM, .ref aL, .int wa, .int fo, .int se])), (aL, .inl (K.2.1, 62, .inl fL)), (aN, .inl (K.1, 124, .inl fN)), (aM, .inl (K.1, 124, .inl fM))] H ∧ va_D A [(h0, .inr (2, [.int 0, .long seed, .long w, .int (nI cnt), .int vb, .int pl, .int vs, .ref aS, .ref aA, .ref aB, .ref aN, .ref aM, .ref aL, .int wa, .int fo, .int se])), (aL, .inl (K.2.1, 62, .inl fL)), (aN, .inl (K.1, 124, .inl fN)), (aM, .inl (K.1, 124, .inl fM))] ∧ va_S A s.heap H locs ∧ lv_has ls 3 [(2, .int (nI j)), (1, .int (bd_mp (fun k => bd_cg fL fN fM vb vs cnt k) j)), (0, .ref h0)]) (fun (j : Nat) => cnt - j) (fun z H locs ls hI ih_9 => ?_) 0 ⟨Nat.zero_le _, Or.inr rfl, hP, hD, hS, lv_sub hl [0, 1, 2] rfl⟩
  obtain ⟨j, rfl⟩ : ∃ y, y = z := ⟨_, rfl⟩
  obtain ⟨hj, h01, hP, hD, hS, hl⟩ := hI
  have hP : va_P D vwCl [(h0, .inr (2, [.int 0, .long seed, .long w, .int (nI cnt), .int vb, .int pl, .int vs, .ref aS, .ref aA, .ref aB, .ref aN, .ref aM, .ref aL, .int wa, .int fo, .int se])), (aL, .inl (K.2.1, 62, .inl fL)), (aN, .inl (K.1, 124, .inl fN)), (aM, .inl (K.1, 124, .inl fM))] H := hP
  have hD : va_D A [(h0, .inr (2, [.int 0, .long seed, .long w, .int (nI cnt), .int vb, .int pl, .int vs, .ref aS, .ref aA, .ref aB, .ref aN, .ref aM, .ref aL, .int wa, .int fo, .int se])), (aL, .inl (K.2.1, 62, .inl fL)), (aN, .inl (K.1, 124, .inl fN)), (aM, .inl (K.1, 124, .inl fM))] := hD
  have hl : lv_has ls 3 [(2, .int (nI j)), (1, .int (bd_mp (fun k => bd_cg fL fN fM vb vs cnt k) j)), (0, .ref h0)] := hl
  refine lv_iload_n hx hb d_M_minimal_9 rfl (lv_at hl 0 rfl) ?_
  refine lv_aload_n hx hb d_M_minimal_10 rfl (lv_at hl 2 rfl) ?_
  refine va_get (D := D) (ci := 2) (v := .int (nI cnt)) (C := "BuildDrawerModel") (T := TM) (N := 16) hx hb hw inM hown hK hP 0 rfl rfl 3 (by decide) (hw _ k_306) (fun _ h9 => h9) rfl d_M_minimal_11 ?_
  refine lv_icmp_ge (tgt := 41) hx hb d_M_minimal_14 (by decide) (fun r_14 => ?_) (fun r_14 => ?_)
  · have c_14 := (nI_leI (a := cnt) (b := j) (by omega) (by omega)).mp r_14
    refine lv_iload_n hx hb d_M_minimal_41 rfl (lv_at hl 1 rfl) ?_
    exact cx_zret hx hb hr hlocks hK hP hD hS d_M_minimal_42 ((bd_01 h01).1) (by rw [← bd_mpmi, show j = cnt by omega]) (rfl)
  · have c_14 := mt (nI_leI (a := cnt) (b := j) (by omega) (by omega)).mpr r_14
    refine lv_iload_n hx hb d_M_minimal_17 rfl (lv_at hl 1 rfl) ?_
    refine lv_if_eq (tgt := 33) hx hb d_M_minimal_18 (by decide) (fun r_18 => ?_) (fun r_18 => ?_)
    · have c_18 := r_18
      refine lv_iconst (v := 0) hx hb d_M_minimal_33 (by decide) ?_
      refine lv_istore_n (lv' := [(1, .int 0), (2, .int (nI j)), (0, .ref h0)]) hx hb d_M_minimal_34 rfl hl (by decide) rfl (fun ls hl => ?_)
      refine lv_iinc (v := nI (j + 1)) (lv' := [(2, .int (nI (j + 1))), (1, .int 0), (0, .ref h0)]) hx hb d_M_minimal_35 hl (k := 1) rfl (by exact cx_inc j) (by decide) rfl (fun ls hl => ?_)
      refine lv_goto (tgt := 9) hx hb d_M_minimal_38 (by decide) ?_
      have hl : lv_has ls 3 [(2, .int (nI (j + 1))), (1, .int (bd_mp (fun k => bd_cg fL fN fM vb vs cnt k) (j + 1))), (0, .ref h0)] := by rw [bd_mp, if_pos r_18]; exact hl
      exact ih_9 (j + 1) _ _ _ ⟨(by omega), (by rw [bd_mp, if_pos r_18]; exact Or.inl rfl), hP, hD, hS, lv_sub hl [0, 1, 2] rfl⟩ (by omega)
    · have c_18 := r_18
      refine lv_aload_n hx hb d_M_minimal_21 rfl (lv_at hl 2 rfl) ?_
      refine lv_iload_n hx hb d_M_minimal_22 rfl (lv_at hl 0 rfl) ?_
      refine cx_ci (wr := []) (wN := [(h0, .inr (2, [.int 0, .long seed, .long w, .int (nI cnt), .int vb, .int pl, .int vs, .ref aS, .ref aA, .ref aB, .ref aN, .ref aM, .ref aL, .int wa, .int fo, .int se])), (aL, .inl (K.2.1, 62, .inl fL)), (aN, .inl (K.1, 124, .inl fN)), (aM, .inl (K.1, 124, .inl fM))]) (va_runV (As := [.int (nI j)]) (rest := []) ⟨hx, hb, hml, hown, hw⟩ (c_M_canGo l G D K H.size h0 0 seed w cnt vb pl vs aS aA aB aN aM aL wa fo se fL fN fM j (by omega) (by omega)) (cwV 1 hw (cx_gV k_393 k_395 ks_M_canGo k_3 k_396) rfl rfl rfl (by decide +kernel) ⟨Nat.le_of_ble_eq_true rfl, Nat.le_of_ble_eq_true rfl⟩) (cx_preV (q0 := 0) (ci := 2) hK hP hD hS hA hE rfl rfl [0, 1, 2, 3] rfl rfl (by decide)) rfl rfl hl.1 rfl (lv_room (Nat.le_of_ble_eq_true rfl)) d_M_minimal_23 ⟨Nat.le_of_ble_eq_true rfl, Nat.le_of_ble_eq_true rfl⟩) hP hD hS hA [0, 1, 2, 3] [] rfl rfl (by decide) (by decide) [0, 1, 2, 3] rfl rfl (by decide) (fun H locs hP hD hS => ?_)
      refine lv_if_ne (tgt := 33) hx hb d_M_minimal_26 (by decide) (fun r_26 => ?_) (fun r_26 => ?_)
      · have c_26 := r_26
        refine lv_iconst (v := 0) hx hb d_M_minimal_33 (by decide) ?_
        refine lv_istore_n (lv' := [(1, .int 0), (2, .int (nI j)), (0, .ref h0)]) hx hb d_M_minimal_34 rfl hl (by decide) rfl (fun ls hl => ?_)
        refine lv_iinc (v := nI (j + 1)) (lv' := [(2, .int (nI (j + 1))), (1, .int 0), (0, .ref h0)]) hx hb d_M_minimal_35 hl (k := 1) rfl (by exact cx_inc j) (by decide) rfl (fun ls hl => ?_)
        refine lv_goto (tgt := 9) hx hb d_M_minimal_38 (by decide) ?_
        have hl : lv_has ls 3 [(2, .int (nI (j + 1))), (1, .int (bd_mp (fun k => bd_cg fL fN fM vb vs cnt k) (j + 1))), (0, .ref h0)] := by rw [bd_mp, if_neg r_18, if_neg r_26]; exact hl
        exact ih_9 (j + 1) _ _ _ ⟨(by omega), (by rw [bd_mp, if_neg r_18, if_neg r_26]; exact Or.inl rfl), hP, hD, hS, lv_sub hl [0, 1, 2] rfl⟩ (by omega)
      · have c_26 := r_26
        refine lv_iconst (v := 1) hx hb d_M_minimal_29 (by decide) ?_
        refine lv_goto (tgt := 34) hx hb d_M_minimal_30 (by decide) ?_
        refine lv_istore_n (lv' := [(1, .int 1), (2, .int (nI j)), (0, .ref h0)]) hx hb d_M_minimal_34 rfl hl (by decide) rfl (fun ls hl => ?_)
        refine lv_iinc (v := nI (j + 1)) (lv' := [(2, .int (nI (j + 1))), (1, .int 1), (0, .ref h0)]) hx hb d_M_minimal_35 hl (k := 1) rfl (by exact cx_inc j) (by decide) rfl (fun ls hl => ?_)
        refine lv_goto (tgt := 9) hx hb d_M_minimal_38 (by decide) ?_
        have hl : lv_has ls 3 [(2, .int (nI (j + 1))), (1, .int (bd_mp (fun k => bd_cg fL fN fM vb vs cnt k) (j + 1))), (0, .ref h0)] := by rw [bd_mp, if_neg r_18, if_pos r_26]; exact hl
        exact ih_9 (j + 1) _ _ _ ⟨(by omega), (by rw [bd_mp, if_neg r_18, if_pos r_26]; exact Or.inr rfl), hP, hD, hS, lv_sub hl [0, 1, 2] rfl⟩ (by omega)
set_option maxHeartbeats 4000000 in
set_option maxRecDepth 100000 in
theorem c_M_shorter (l : Launch) (G : cx_G) (D : va_G) (K : cx_KT) (sz : Nat) (h0 : Nat) (cd : Int32) (seed : Int64) (w : Int64) (cnt : Nat) (vb : Int32) (pl : Int32) (vs : Int32) (aS : Nat) (aA : Nat) (aB : Nat) (aN : Nat) (aM : Nat) (aL : Nat) (wa : Int32) (fo : Int32) (se : Int32) (fL : Nat → Int32) (fN : Nat → Int32) (fM : Nat → Int32) (hcnt : cnt ≤ 62) : Met l y_M_shorter w_M_shorter ({ frames := 2, cells := 0, slots := 0, locals := 45 }) (cx_Pc G D (cx_ty K) [(h0, .inr (2, [.int cd, .long seed, .long w, .int (nI cnt), .int vb, .int pl, .int vs, .ref aS, .ref aA, .ref aB, .ref aN, .ref aM, .ref aL, .int wa, .int fo, .int se])), (aL, .inl (K.2.1, 62, .inl fL)), (aN, .inl (K.1, 124, .inl fN)), (aM, .inl (K.1, 124, .inl fM))] sz [.ref h0]) (cx_Qi (nI (bd_cl (bd_sh fL fN fM vb vs cnt) cnt)) D (cx_ty K) [(h0, .inr (2, [.int 0, .long seed, .long w, .int (nI cnt), .int vb, .int pl, .int vs, .ref aS, .ref aA, .ref aB, .ref aN, .ref aM, .ref aL, .int wa, .int fo, .int se])), (aL, .inl (K.2.1, 62, .inl (bd_sh fL fN fM vb vs cnt))), (aN, .inl (K.1, 124, .inl fN)), (aM, .inl (K.1, 124, .inl fM))] (va_A [(h0, .inr (2, [.int cd, .long seed, .long w, .int (nI cnt), .int vb, .int pl, .int vs, .ref aS, .ref aA, .ref aB, .ref aN, .ref aM, .ref aL, .int wa, .int fo, .int se])), (aL, .inl (K.2.1, 62, .inl fL)), (aN, .inl (K.1, 124, .inl fN)), (aM, .inl (K.1, 124, .inl fM))] sz)) 0 0 (va_A [(h0, .inr (2, [.int cd, .long seed, .long w, .int (nI cnt), .int vb, .int pl, .int vs, .ref aS, .ref aA, .ref aB, .ref aN, .ref aM, .ref aL, .int wa, .int fo, .int se])), (aL, .inl (K.2.1, 62, .inl fL)), (aN, .inl (K.1, 124, .inl fN)), (aM, .inl (K.1, 124, .inl fM))] sz) := by
  refine Met.ofW (cc := prog_4_method_14_code) (maxL := 3) (ret := (some .int)) (by decide) rfl ?_
  intro p e s m args below meth c s₁ B hml hv
  obtain ⟨rfl, hsz, hP, hK, hD0, hE⟩ := hv
  have hx := B.exec
  have hb := B.bytes
  have hr := B.returns
  have hts := atoms_spec (ws := w_M_shorter) B.pre
  have hw : ∀ w ∈ cw, w.before _ s = true := fun w h => hts w (List.mem_cons_of_mem _ h)
  have hown : s.vm.findClass "BuildDrawerModel" = some m.cls := findClass_of_methodNamed B.named
  have hlocks := B.notSynchronized
  subst hsz
  have hD := hD0.self (sz := s.heap.size)
  generalize hAe : va_A [(h0, .inr (2, [.int cd, .long seed, .long w, .int (nI cnt), .int vb, .int pl, .int vs, .ref aS, .ref aA, .ref aB, .ref aN, .ref aM, .ref aL, .int wa, .int fo, .int se])), (aL, .inl (K.2.1, 62, .inl fL)), (aN, .inl (K.1, 124, .inl fN)), (aM, .inl (K.1, 124, .inl fM))] s.heap.size = A at hD hE ⊢
  have hA : ∀ q : Nat, s.heap.size ≤ q → A q := fun q h => by rw [← hAe]; exact Or.inr h
  have hS : va_S A s.heap s.heap [] := va_S.rf
  have hl := lv_entry ([.ref h0]) (n := 3) (Nat.le_of_ble_eq_true rfl)
  rw [lg_entry_eq]
  generalize (lg_sl ([.ref h0]) ++ List.replicate (3 - (lg_sl ([.ref h0])).length) Slot.unset).toArray = ls at hl ⊢
  have hl : lv_has ls 3 [(0, .ref h0)] := hl
  refine lv_aload_n hx hb d_M_shorter_0 rfl (lv_at hl 0 rfl) ?_
  refine lv_iconst (v := 0) hx hb d_M_shorter_1 (by decide) ?_
  refine va_put (D := D) (ci := 2) (v := .int 0) (ty := .int) (C := "BuildDrawerModel") (T := TM) (N := 16) hx hb hw inM tyM tyM_ok nmM hown hK hP hD hS 0 rfl rfl 0 (by decide) (hw _ k_303) (fun _ h9 => h9) rfl (by decide +kernel) rfl rfl (Nat.le_of_ble_eq_true rfl) d_M_shorter_2 (fun H locs hP hD hS => ?_)
  have hP : va_P D vwCl [(h0, .inr (2, [.int 0, .long seed, .long w, .int (nI cnt), .int vb, .int pl, .int vs, .ref aS, .ref aA, .ref aB, .ref aN, .ref aM, .ref aL, .int wa, .int fo, .int se])), (aL, .inl (K.2.1, 62, .inl fL)), (aN, .inl (K.1, 124, .inl fN)), (aM, .inl (K.1, 124, .inl fM))] H := hP
  have hD : va_D A [(h0, .inr (2, [.int 0, .long seed, .long w, .int (nI cnt), .int vb, .int pl, .int vs, .ref aS, .ref aA, .ref aB, .ref aN, .ref aM, .ref aL, .int wa, .int fo, .int se])), (aL, .inl (K.2.1, 62, .inl fL)), (aN, .inl (K.1, 124, .inl fN)), (aM, .inl (K.1, 124, .inl fM))] := hD
  refine lv_aload_n hx hb d_M_shorter_5 rfl (lv_at hl 0 rfl) ?_
  refine lv_iconst (v := (-1)) hx hb d_M_shorter_6 (by decide) ?_
  refine cx_ci (wr := [(aN, .inl (K.1, 124, .inl fN))]) (wN := [(h0, .inr (2, [.int 0, .long seed, .long w, .int (nI cnt), .int vb, .int pl, .int vs, .ref aS, .ref aA, .ref aB, .ref aN, .ref aM, .ref aL, .int wa, .int fo, .int se])), (aL, .inl (K.2.1, 62, .inl fL)), (aN, .inl (K.1, 124, .inl fN)), (aM, .inl (K.1, 124, .inl fM))]) (va_runV (As := [.int (-1)]) (rest := []) ⟨hx, hb, hml, hown, hw⟩ (c_M_holdsA l G D K H.size h0 0 seed w cnt vb pl vs aS aA aB aN aM aL wa fo se fL fM (by omega)) (cwV 1 hw (cx_gV k_389 k_391 ks_M_holds k_3 k_392) rfl rfl rfl (by decide +kernel) ⟨Nat.le_of_ble_eq_true rfl, Nat.le_of_ble_eq_true rfl⟩) (cx_preV (q0 := 0) (ci := 2) hK hP hD hS hA hE rfl rfl [0, 1, 3] rfl rfl (by decide)) rfl rfl hl.1 rfl (lv_room (Nat.le_of_ble_eq_true rfl)) d_M_shorter_7 ⟨Nat.le_of_ble_eq_true rfl, Nat.le_of_ble_eq_true rfl⟩) hP hD hS hA [0, 1, 3] [2] rfl rfl (by decide) (by decide) [1, 2, 0, 3] rfl rfl (by decide) (fun H locs hP hD hS => ?_)
  refine lv_istore_n (lv' := [(1, .int (bd_ho vb vs (bd_ml fL fM cnt))), (0, .ref h0)]) hx hb d_M_shorter_10 rfl hl (by decide) rfl (fun ls hl => ?_)
  refine lv_iload_n hx hb d_M_shorter_11 rfl (lv_at hl 0 rfl) ?_
  refine lv_if_ne (tgt := 38) hx hb d_M_shorter_12 (by decide) (fun r_12 => ?_) (fun r_12 => ?_)
  · have c_12 := r_12
    refine cx_loop (pc := 38) (st := []) (fun (z : (Nat → Int32) × Int32 × Nat) H locs ls => match z with | (f, a, fl) => (bd_la (fun f => bd_lo (fun f k => bd_cg f fN fM vb vs cnt k) cnt f 0) fl f a = bd_sh fL fN fM vb vs cnt) ∧ (¬ a = 0 → bd_cl f cnt < fl) ∧ va_P D vwCl [(h0, .inr (2, [.int 0, .long seed, .long w, .int (nI cnt), .int vb, .int pl, .int vs, .ref aS, .ref aA, .ref aB, .ref aN, .ref aM, .ref aL, .int wa, .int fo, .int se])), (aL, .inl (K.2.1, 62, .inl f)), (aN, .inl (K.1, 124, .inl fN)), (aM, .inl (K.1, 124, .inl fM))] H ∧ va_D A [(h0, .inr (2, [.int 0, .long seed, .long w, .int (nI cnt), .int vb, .int pl, .int vs, .ref aS, .ref aA, .ref aB, .ref aN, .ref aM, .ref aL, .int wa, .int fo, .int se])), (aL, .inl (K.2.1, 62, .inl f)), (aN, .inl (K.1, 124, .inl fN)), (aM, .inl (K.1, 124, .inl fM))] ∧ va_S A s.heap H locs ∧ lv_has ls 3 [(1, .int a), (0, .ref h0)]) (fun (z : (Nat → Int32) × Int32 × Nat) => match z with | (f, a, fl) => fl) (fun z H locs ls hI ih_38 => ?_) (fL, (bd_ho vb vs (bd_ml fL fM cnt)), 63) ⟨(by rw [bd_sh, if_neg r_12, (bd_ho_01 vb vs (bd_ml fL fM cnt)).resolve_left r_12]), (fun _ => by have := bd_cl_le fL cnt; omega), hP, hD, hS, lv_sub hl [0, 1] rfl⟩
    obtain ⟨f, a, fl⟩ := z
    obtain ⟨hb9, ha9, hP, hD, hS, hl⟩ := hI
    have hP : va_P D vwCl [(h0, .inr (2, [.int 0, .long seed, .long w, .int (nI cnt), .int vb, .int pl, .int vs, .ref aS, .ref aA, .ref aB, .ref aN, .ref aM, .ref aL, .int wa, .int fo, .int se])), (aL, .inl (K.2.1, 62, .inl f)), (aN, .inl (K.1, 124, .inl fN)), (aM, .inl (K.1, 124, .inl fM))] H := hP
    have hD : va_D A [(h0, .inr (2, [.int 0, .long seed, .long w, .int (nI cnt), .int vb, .int pl, .int vs, .ref aS, .ref aA, .ref aB, .ref aN, .ref aM, .ref aL, .int wa, .int fo, .int se])), (aL, .inl (K.2.1, 62, .inl f)), (aN, .inl (K.1, 124, .inl fN)), (aM, .inl (K.1, 124, .inl fM))] := hD
    have hl : lv_has ls 3 [(1, .int a), (0, .ref h0)] := hl
    refine lv_iload_n hx hb d_M_shorter_38 rfl (lv_at hl 0 rfl) ?_
    refine lv_if_eq (tgt := 84) hx hb d_M_shorter_39 (by decide) (fun r_39 => ?_) (fun r_39 => ?_)
    · have c_39 := r_39
      refine lv_aload_n hx hb d_M_shorter_84 rfl (lv_at hl 1 rfl) ?_
      refine cx_ci (wr := [(aN, .inl (K.1, 124, .inl fN)), (aM, .inl (K.1, 124, .inl fM))]) (wN := [(h0, .inr (2, [.int 0, .long seed, .long w, .int (nI cnt), .int vb, .int pl, .int vs, .ref aS, .ref aA, .ref aB, .ref aN, .ref aM, .ref aL, .int wa, .int fo, .int se])), (aL, .inl (K.2.1, 62, .inl f)), (aN, .inl (K.1, 124, .inl fN)), (aM, .inl (K.1, 124, .inl fM))]) (va_runV (As := []) (rest := []) ⟨hx, hb, hml, hown, hw⟩ (c_M_count l G D K H.size h0 0 seed w cnt vb pl vs aS aA aB aN aM aL wa fo se f (by omega)) (cwV 0 hw (cx_gV k_397 k_399 ks_M_count k_3 k_400) rfl rfl rfl (by decide +kernel) ⟨Nat.le_of_ble_eq_true rfl, Nat.le_of_ble_eq_true rfl⟩) (cx_preV (q0 := 0) (ci := 2) hK hP hD hS hA hE rfl rfl [0, 1] rfl rfl (by decide)) rfl rfl hl.1 rfl (lv_room (Nat.le_of_ble_eq_true rfl)) d_M_shorter_85 ⟨Nat.le_of_ble_eq_true rfl, Nat.le_of_ble_eq_true rfl⟩) hP hD hS hA [0, 1] [2, 3] rfl rfl (by decide) (by decide) [2, 3, 0, 1] rfl rfl (by decide) (fun H locs hP hD hS => ?_)
      exact cx_iret hx hb hr hlocks hK hP hD hS d_M_shorter_88 (by rw [← hb9, bd_la_0 _ _ _ r_39]) (by rw [← hb9, bd_la_0 _ _ _ r_39])
    · have c_39 := r_39
      refine lv_iconst (v := 0) hx hb d_M_shorter_42 (by decide) ?_
      refine lv_istore_n (lv' := [(1, .int 0), (0, .ref h0)]) hx hb d_M_shorter_43 rfl hl (by decide) rfl (fun ls hl => ?_)
      refine lv_aload_n hx hb d_M_shorter_44 rfl (lv_at hl 1 rfl) ?_
      refine va_get (D := D) (ci := 2) (v := .int (nI cnt)) (C := "BuildDrawerModel") (T := TM) (N := 16) hx hb hw inM hown hK hP 0 rfl rfl 3 (by decide) (hw _ k_306) (fun _ h9 => h9) rfl d_M_shorter_45 ?_
      refine lv_iconst (v := 1) hx hb d_M_shorter_48 (by decide) ?_
      refine lv_isub hx hb d_M_shorter_49 ?_
      refine lv_istore_n (lv' := [(2, .int ((nI cnt) - 1)), (1, .int 0), (0, .ref h0)]) hx hb d_M_shorter_50 rfl hl (by decide) rfl (fun ls hl => ?_)
      refine cx_loop (pc := 51) (st := []) (fun (z : Nat × (Nat → Int32) × Int32) H locs ls => match z with | (q, g, w9) => (q ≤ cnt) ∧ (bd_lo (fun f k => bd_cg f fN fM vb vs cnt k) q g w9 = bd_lo (fun f k => bd_cg f fN fM vb vs cnt k) cnt f 0) ∧ va_P D vwCl [(h0, .inr (2, [.int 0, .long seed, .long w, .int (nI cnt), .int vb, .int pl, .int vs, .ref aS, .ref aA, .ref aB, .ref aN, .ref aM, .ref aL, .int wa, .int fo, .int se])), (aL, .inl (K.2.1, 62, .inl g)), (aN, .inl (K.1, 124, .inl fN)), (aM, .inl (K.1, 124, .inl fM))] H ∧ va_D A [(h0, .inr (2, [.int 0, .long seed, .long w, .int (nI cnt), .int vb, .int pl, .int vs, .ref aS, .ref aA, .ref aB, .ref aN, .ref aM, .ref aL, .int wa, .int fo, .int se])), (aL, .inl (K.2.1, 62, .inl g)), (aN, .inl (K.1, 124, .inl fN)), (aM, .inl (K.1, 124, .inl fM))] ∧ va_S A s.heap H locs ∧ lv_has ls 3 [(2, .int (nI q - 1)), (1, .int w9), (0, .ref h0)]) (fun (z : Nat × (Nat → Int32) × Int32) => match z with | (q, g, w9) => q) (fun z H locs ls hI ih_51 => ?_) (cnt, f, 0) ⟨Nat.le_refl _, rfl, hP, hD, hS, lv_sub hl [0, 1, 2] rfl⟩
      obtain ⟨q, g, w9⟩ := z
      obtain ⟨hq, hb8, hP, hD, hS, hl⟩ := hI
      have hP : va_P D vwCl [(h0, .inr (2, [.int 0, .long seed, .long w, .int (nI cnt), .int vb, .int pl, .int vs, .ref aS, .ref aA, .ref aB, .ref aN, .ref aM, .ref aL, .int wa, .int fo, .int se])), (aL, .inl (K.2.1, 62, .inl g)), (aN, .inl (K.1, 124, .inl fN)), (aM, .inl (K.1, 124, .inl fM))] H := hP
      have hD : va_D A [(h0, .inr (2, [.int 0, .long seed, .long w, .int (nI cnt), .int vb, .int pl, .int vs, .ref aS, .ref aA, .ref aB, .ref aN, .ref aM, .ref aL, .int wa, .int fo, .int se])), (aL, .inl (K.2.1, 62, .inl g)), (aN, .inl (K.1, 124, .inl fN)), (aM, .inl (K.1, 124, .inl fM))] := hD
      have hl : lv_has ls 3 [(2, .int (nI q - 1)), (1, .int w9), (0, .ref h0)] := hl
      refine lv_iload_n hx hb d_M_shorter_51 rfl (lv_at hl 0 rfl) ?_
      refine lv_if_lt (tgt := 81) hx hb d_M_shorter_52 (by decide) (fun r_52 => ?_) (fun r_52 => ?_)
      · have c_52 := r_52
        have c_52 := (bd_dn_lt (by omega)).mp r_52
        subst c_52
        refine lv_goto (tgt := 38) hx hb d_M_shorter_81 (by decide) ?_
        exact ih_38 (g, w9, (fl - 1)) _ _ _ ⟨(by rw [← hb9]; have h9 := ha9 r_39; rw [show fl = (fl - 1) + 1 by omega]; exact (bd_la_step hb8.symm r_39).symm), (fun h => by have h7 := bd_lo_cg hb8 h; have h9 := ha9 r_39; omega), hP, hD, hS, lv_sub hl [1, 2] rfl⟩ (show fl - 1 < fl by have := ha9 r_39; omega)
      · have c_52 := r_52
        have c_52 := mt (bd_dn_lt (by omega)).mpr r_52
        obtain ⟨k, rfl⟩ : ∃ k, q = k + 1 := ⟨q - 1, by omega⟩
        rw [nI_pred] at hl
        refine lv_aload_n hx hb d_M_shorter_55 rfl (lv_at hl 2 rfl) ?_
        refine lv_iload_n hx hb d_M_shorter_56 rfl (lv_at hl 0 rfl) ?_
        refine cx_ci (wr := []) (wN := [(h0, .inr (2, [.int 0, .long seed, .long w, .int (nI cnt), .int vb, .int pl, .int vs, .ref aS, .ref aA, .ref aB, .ref aN, .ref aM, .ref aL, .int wa, .int fo, .int se])), (aL, .inl (K.2.1, 62, .inl g)), (aN, .inl (K.1, 124, .inl fN)), (aM, .inl (K.1, 124, .inl fM))]) (va_runV (As := [.int (nI k)]) (rest := []) ⟨hx, hb, hml, hown, hw⟩ (c_M_canGo l G D K H.size h0 0 seed w cnt vb pl vs aS aA aB aN aM aL wa fo se g fN fM k (by omega) (by omega)) (cwV 1 hw (cx_gV k_393 k_395 ks_M_canGo k_3 k_396) rfl rfl rfl (by decide +kernel) ⟨Nat.le_of_ble_eq_true rfl, Nat.le_of_ble_eq_true rfl⟩) (cx_preV (q0 := 0) (ci := 2) hK hP hD hS hA hE rfl rfl [0, 1, 2, 3] rfl rfl (by decide)) rfl rfl hl.1 rfl (lv_room (Nat.le_of_ble_eq_true rfl)) d_M_shorter_57 ⟨Nat.le_of_ble_eq_true rfl, Nat.le_of_ble_eq_true rfl⟩) hP hD hS hA [0, 1, 2, 3] [] rfl rfl (by decide) (by decide) [0, 1, 2, 3] rfl rfl (by decide) (fun H locs hP hD hS => ?_)
        refine lv_if_ne (tgt := 66) hx hb d_M_shorter_60 (by decide) (fun r_60 => ?_) (fun r_60 => ?_)
        · have c_60 := r_60
          have e_i : bd_lo (fun f k => bd_cg f fN fM vb vs cnt k) (k + 1) g w9 = bd_lo (fun f k => bd_cg f fN fM vb vs cnt k) k (upd g k 0) 1 := by rw [bd_lo, if_neg r_60]
          refine lv_aload_n hx hb d_M_shorter_66 rfl (lv_at hl 2 rfl) ?_
          refine va_get (D := D) (ci := 2) (v := .ref aL) (C := "BuildDrawerModel") (T := TM) (N := 16) hx hb hw inM hown hK hP 0 rfl rfl 12 (by decide) (hw _ k_315) (fun _ h9 => h9) rfl d_M_shorter_67 ?_
          refine lv_iload_n hx hb d_M_shorter_70 rfl (lv_at hl 0 rfl) ?_
          refine lv_iconst (v := 0) hx hb d_M_shorter_71 (by decide) ?_
          refine va_zast hx hb hK hP hD hS 1 1 rfl rfl (vp_in_nI (n := k) (by omega) (by omega)) d_M_shorter_72 (fun H locs hP hD hS => ?_)
          have e_72 : upd g (nI k).toNatClampNeg (vp_nar .boolean 0) = upd g k 0 := by rw [nI_clamp (by omega), bd_nar0]
          have hP : va_P D vwCl [(h0, .inr (2, [.int 0, .long seed, .long w, .int (nI cnt), .int vb, .int pl, .int vs, .ref aS, .ref aA, .ref aB, .ref aN, .ref aM, .ref aL, .int wa, .int fo, .int se])), (aL, .inl (K.2.1, 62, .inl (upd g (nI k).toNatClampNeg (vp_nar .boolean 0)))), (aN, .inl (K.1, 124, .inl fN)), (aM, .inl (K.1, 124, .inl fM))] H := hP
          have hD : va_D A [(h0, .inr (2, [.int 0, .long seed, .long w, .int (nI cnt), .int vb, .int pl, .int vs, .ref aS, .ref aA, .ref aB, .ref aN, .ref aM, .ref aL, .int wa, .int fo, .int se])), (aL, .inl (K.2.1, 62, .inl (upd g (nI k).toNatClampNeg (vp_nar .boolean 0)))), (aN, .inl (K.1, 124, .inl fN)), (aM, .inl (K.1, 124, .inl fM))] := hD
          rw [e_72] at hP hD
          have hP : va_P D vwCl [(h0, .inr (2, [.int 0, .long seed, .long w, .int (nI cnt), .int vb, .int pl, .int vs, .ref aS, .ref aA, .ref aB, .ref aN, .ref aM, .ref aL, .int wa, .int fo, .int se])), (aL, .inl (K.2.1, 62, .inl (upd g k 0))), (aN, .inl (K.1, 124, .inl fN)), (aM, .inl (K.1, 124, .inl fM))] H := hP
          have hD : va_D A [(h0, .inr (2, [.int 0, .long seed, .long w, .int (nI cnt), .int vb, .int pl, .int vs, .ref aS, .ref aA, .ref aB, .ref aN, .ref aM, .ref aL, .int wa, .int fo, .int se])), (aL, .inl (K.2.1, 62, .inl (upd g k 0))), (aN, .inl (K.1, 124, .inl fN)), (aM, .inl (K.1, 124, .inl fM))] := hD
          refine lv_iconst (v := 1) hx hb d_M_shorter_73 (by decide) ?_
          refine lv_istore_n (lv' := [(1, .int 1), (2, .int (nI k)), (0, .ref h0)]) hx hb d_M_shorter_74 rfl hl (by decide) rfl (fun ls hl => ?_)
          refine lv_iinc (v := nI k - 1) (lv' := [(2, .int (nI k - 1)), (1, .int 1), (0, .ref h0)]) hx hb d_M_shorter_75 hl (k := 1) rfl (by exact cx_dec k) (by decide) rfl (fun ls hl => ?_)
          refine lv_goto (tgt := 51) hx hb d_M_shorter_78 (by decide) ?_
          exact ih_51 (k, (upd g k 0), 1) _ _ _ ⟨(by omega), (by rw [← hb8]; exact e_i.symm), hP, hD, hS, lv_sub hl [0, 1, 2] rfl⟩ (show k < k + 1 by omega)
        · have c_60 := r_60
          have e_i : bd_lo (fun f k => bd_cg f fN fM vb vs cnt k) (k + 1) g w9 = bd_lo (fun f k => bd_cg f fN fM vb vs cnt k) k g w9 := by rw [bd_lo, if_pos r_60]
          refine lv_goto (tgt := 75) hx hb d_M_shorter_63 (by decide) ?_
          refine lv_iinc (v := nI k - 1) (lv' := [(2, .int (nI k - 1)), (1, .int w9), (0, .ref h0)]) hx hb d_M_shorter_75 hl (k := 0) rfl (by exact cx_dec k) (by decide) rfl (fun ls hl => ?_)
          refine lv_goto (tgt := 51) hx hb d_M_shorter_78 (by decide) ?_
          exact ih_51 (k, g, w9) _ _ _ ⟨(by omega), (by rw [← hb8]; exact e_i.symm), hP, hD, hS, lv_sub hl [0, 1, 2] rfl⟩ (show k < k + 1 by omega)
  · have c_12 := r_12
    refine lv_iconst (v := 0) hx hb d_M_shorter_15 (by decide) ?_
    refine lv_istore_n (lv' := [(2, .int 0), (1, .int (bd_ho vb vs (bd_ml fL fM cnt))), (0, .ref h0)]) hx hb d_M_shorter_16 rfl hl (by decide) rfl (fun ls hl => ?_)
    have hP : va_P D vwCl [(h0, .inr (2, [.int 0, .long seed, .long w, .int (nI cnt), .int vb, .int pl, .int vs, .ref aS, .ref aA, .ref aB, .ref aN, .ref aM, .ref aL, .int wa, .int fo, .int se])), (aL, .inl (K.2.1, 62, .inl (bd_all 0 fL))), (aN, .inl (K.1, 124, .inl fN)), (aM, .inl (K.1, 124, .inl fM))] H := by rw [bd_all, bd_fil0]; exact hP
    have hD : va_D A [(h0, .inr (2, [.int 0, .long seed, .long w, .int (nI cnt), .int vb, .int pl, .int vs, .ref aS, .ref aA, .ref aB, .ref aN, .ref aM, .ref aL, .int wa, .int fo, .int se])), (aL, .inl (K.2.1, 62, .inl (bd_all 0 fL))), (aN, .inl (K.1, 124, .inl fN)), (aM, .inl (K.1, 124, .inl fM))] := by rw [bd_all, bd_fil0]; exact hD
    refine cx_loop (pc := 17) (st := []) (fun (i : Nat) H locs ls => (i ≤ cnt) ∧ va_P D vwCl [(h0, .inr (2, [.int 0, .long seed, .long w, .int (nI cnt), .int vb, .int pl, .int vs, .ref aS, .ref aA, .ref aB, .ref aN, .ref aM, .ref aL, .int wa, .int fo, .int se])), (aL, .inl (K.2.1, 62, .inl (bd_all i fL))), (aN, .inl (K.1, 124, .inl fN)), (aM, .inl (K.1, 124, .inl fM))] H ∧ va_D A [(h0, .inr (2, [.int 0, .long seed, .long w, .int (nI cnt), .int vb, .int pl, .int vs, .ref aS, .ref aA, .ref aB, .ref aN, .ref aM, .ref aL, .int wa, .int fo, .int se])), (aL, .inl (K.2.1, 62, .inl (bd_all i fL))), (aN, .inl (K.1, 124, .inl fN)), (aM, .inl (K.1, 124, .inl fM))] ∧ va_S A s.heap H locs ∧ lv_has ls 3 [(2, .int (nI i)), (1, .int (bd_ho vb vs (bd_ml fL fM cnt))), (0, .ref h0)]) (fun (i : Nat) => cnt - i) (fun z H locs ls hI ih_17 => ?_) 0 ⟨Nat.zero_le _, hP, hD, hS, lv_sub hl [0, 1, 2] rfl⟩
    obtain ⟨i, rfl⟩ : ∃ y, y = z := ⟨_, rfl⟩
    obtain ⟨hi, hP, hD, hS, hl⟩ := hI
    have hP : va_P D vwCl [(h0, .inr (2, [.int 0, .long seed, .long w, .int (nI cnt), .int vb, .int pl, .int vs, .ref aS, .ref aA, .ref aB, .ref aN, .ref aM, .ref aL, .int wa, .int fo, .int se])), (aL, .inl (K.2.1, 62, .inl (bd_all i fL))), (aN, .inl (K.1, 124, .inl fN)), (aM, .inl (K.1, 124, .inl fM))] H := hP
    have hD : va_D A [(h0, .inr (2, [.int 0, .long seed, .long w, .int (nI cnt), .int vb, .int pl, .int vs, .ref aS, .ref aA, .ref aB, .ref aN, .ref aM, .ref aL, .int wa, .int fo, .int se])), (aL, .inl (K.2.1, 62, .inl (bd_all i fL))), (aN, .inl (K.1, 124, .inl fN)), (aM, .inl (K.1, 124, .inl fM))] := hD
    have hl : lv_has ls 3 [(2, .int (nI i)), (1, .int (bd_ho vb vs (bd_ml fL fM cnt))), (0, .ref h0)] := hl
    refine lv_iload_n hx hb d_M_shorter_17 rfl (lv_at hl 0 rfl) ?_
    refine lv_aload_n hx hb d_M_shorter_18 rfl (lv_at hl 2 rfl) ?_
    refine va_get (D := D) (ci := 2) (v := .int (nI cnt)) (C := "BuildDrawerModel") (T := TM) (N := 16) hx hb hw inM hown hK hP 0 rfl rfl 3 (by decide) (hw _ k_306) (fun _ h9 => h9) rfl d_M_shorter_19 ?_
    refine lv_icmp_ge (tgt := 38) hx hb d_M_shorter_22 (by decide) (fun r_22 => ?_) (fun r_22 => ?_)
    · have c_22 := (nI_leI (a := cnt) (b := i) (by omega) (by omega)).mp r_22
      have hP : va_P D vwCl [(h0, .inr (2, [.int 0, .long seed, .long w, .int (nI cnt), .int vb, .int pl, .int vs, .ref aS, .ref aA, .ref aB, .ref aN, .ref aM, .ref aL, .int wa, .int fo, .int se])), (aL, .inl (K.2.1, 62, .inl (bd_all cnt fL))), (aN, .inl (K.1, 124, .inl fN)), (aM, .inl (K.1, 124, .inl fM))] H := by rw [show bd_all cnt fL = bd_all i fL by rw [show i = cnt by omega]]; exact hP
      have hD : va_D A [(h0, .inr (2, [.int 0, .long seed, .long w, .int (nI cnt), .int vb, .int pl, .int vs, .ref aS, .ref aA, .ref aB, .ref aN, .ref aM, .ref aL, .int wa, .int fo, .int se])), (aL, .inl (K.2.1, 62, .inl (bd_all cnt fL))), (aN, .inl (K.1, 124, .inl fN)), (aM, .inl (K.1, 124, .inl fM))] := by rw [show bd_all cnt fL = bd_all i fL by rw [show i = cnt by omega]]; exact hD
      refine cx_loop (pc := 38) (st := []) (fun (z : (Nat → Int32) × Int32 × Nat) H locs ls => match z with | (f, a, fl) => (bd_la (fun f => bd_lo (fun f k => bd_cg f fN fM vb vs cnt k) cnt f 0) fl f a = bd_sh fL fN fM vb vs cnt) ∧ (¬ a = 0 → bd_cl f cnt < fl) ∧ va_P D vwCl [(h0, .inr (2, [.int 0, .long seed, .long w, .int (nI cnt), .int vb, .int pl, .int vs, .ref aS, .ref aA, .ref aB, .ref aN, .ref aM, .ref aL, .int wa, .int fo, .int se])), (aL, .inl (K.2.1, 62, .inl f)), (aN, .inl (K.1, 124, .inl fN)), (aM, .inl (K.1, 124, .inl fM))] H ∧ va_D A [(h0, .inr (2, [.int 0, .long seed, .long w, .int (nI cnt), .int vb, .int pl, .int vs, .ref aS, .ref aA, .ref aB, .ref aN, .ref aM, .ref aL, .int wa, .int fo, .int se])), (aL, .inl (K.2.1, 62, .inl f)), (aN, .inl (K.1, 124, .inl fN)), (aM, .inl (K.1, 124, .inl fM))] ∧ va_S A s.heap H locs ∧ lv_has ls 3 [(1, .int a), (0, .ref h0)]) (fun (z : (Nat → Int32) × Int32 × Nat) => match z with | (f, a, fl) => fl) (fun z H locs ls hI ih_38 => ?_) ((bd_all cnt fL), (bd_ho vb vs (bd_ml fL fM cnt)), 0) ⟨(by rw [bd_la, bd_sh, if_pos r_12]), (fun h => absurd r_12 h), hP, hD, hS, lv_sub hl [1, 2] rfl⟩
      obtain ⟨f, a, fl⟩ := z
      obtain ⟨hb9, ha9, hP, hD, hS, hl⟩ := hI
      have hP : va_P D vwCl [(h0, .inr (2, [.int 0, .long seed, .long w, .int (nI cnt), .int vb, .int pl, .int vs, .ref aS, .ref aA, .ref aB, .ref aN, .ref aM, .ref aL, .int wa, .int fo, .int se])), (aL, .inl (K.2.1, 62, .inl f)), (aN, .inl (K.1, 124, .inl fN)), (aM, .inl (K.1, 124, .inl fM))] H := hP
      have hD : va_D A [(h0, .inr (2, [.int 0, .long seed, .long w, .int (nI cnt), .int vb, .int pl, .int vs, .ref aS, .ref aA, .ref aB, .ref aN, .ref aM, .ref aL, .int wa, .int fo, .int se])), (aL, .inl (K.2.1, 62, .inl f)), (aN, .inl (K.1, 124, .inl fN)), (aM, .inl (K.1, 124, .inl fM))] := hD
      have hl : lv_has ls 3 [(1, .int a), (0, .ref h0)] := hl
      refine lv_iload_n hx hb d_M_shorter_38 rfl (lv_at hl 0 rfl) ?_
      refine lv_if_eq (tgt := 84) hx hb d_M_shorter_39 (by decide) (fun r_39 => ?_) (fun r_39 => ?_)
      · have c_39 := r_39
        refine lv_aload_n hx hb d_M_shorter_84 rfl (lv_at hl 1 rfl) ?_
        refine cx_ci (wr := [(aN, .inl (K.1, 124, .inl fN)), (aM, .inl (K.1, 124, .inl fM))]) (wN := [(h0, .inr (2, [.int 0, .long seed, .long w, .int (nI cnt), .int vb, .int pl, .int vs, .ref aS, .ref aA, .ref aB, .ref aN, .ref aM, .ref aL, .int wa, .int fo, .int se])), (aL, .inl (K.2.1, 62, .inl f)), (aN, .inl (K.1, 124, .inl fN)), (aM, .inl (K.1, 124, .inl fM))]) (va_runV (As := []) (rest := []) ⟨hx, hb, hml, hown, hw⟩ (c_M_count l G D K H.size h0 0 seed w cnt vb pl vs aS aA aB aN aM aL wa fo se f (by omega)) (cwV 0 hw (cx_gV k_397 k_399 ks_M_count k_3 k_400) rfl rfl rfl (by decide +kernel) ⟨Nat.le_of_ble_eq_true rfl, Nat.le_of_ble_eq_true rfl⟩) (cx_preV (q0 := 0) (ci := 2) hK hP hD hS hA hE rfl rfl [0, 1] rfl rfl (by decide)) rfl rfl hl.1 rfl (lv_room (Nat.le_of_ble_eq_true rfl)) d_M_shorter_85 ⟨Nat.le_of_ble_eq_true rfl, Nat.le_of_ble_eq_true rfl⟩) hP hD hS hA [0, 1] [2, 3] rfl rfl (by decide) (by decide) [2, 3, 0, 1] rfl rfl (by decide) (fun H locs hP hD hS => ?_)
        exact cx_iret hx hb hr hlocks hK hP hD hS d_M_shorter_88 (by rw [← hb9, bd_la_0 _ _ _ r_39]) (by rw [← hb9, bd_la_0 _ _ _ r_39])
      · have c_39 := r_39
        refine lv_iconst (v := 0) hx hb d_M_shorter_42 (by decide) ?_
        refine lv_istore_n (lv' := [(1, .int 0), (0, .ref h0)]) hx hb d_M_shorter_43 rfl hl (by decide) rfl (fun ls hl => ?_)
        refine lv_aload_n hx hb d_M_shorter_44 rfl (lv_at hl 1 rfl) ?_
        refine va_get (D := D) (ci := 2) (v := .int (nI cnt)) (C := "BuildDrawerModel") (T := TM) (N := 16) hx hb hw inM hown hK hP 0 rfl rfl 3 (by decide) (hw _ k_306) (fun _ h9 => h9) rfl d_M_shorter_45 ?_
        refine lv_iconst (v := 1) hx hb d_M_shorter_48 (by decide) ?_
        refine lv_isub hx hb d_M_shorter_49 ?_
        refine lv_istore_n (lv' := [(2, .int ((nI cnt) - 1)), (1, .int 0), (0, .ref h0)]) hx hb d_M_shorter_50 rfl hl (by decide) rfl (fun ls hl => ?_)
        refine cx_loop (pc := 51) (st := []) (fun (z : Nat × (Nat → Int32) × Int32) H locs ls => match z with | (q, g, w9) => (q ≤ cnt) ∧ (bd_lo (fun f k => bd_cg f fN fM vb vs cnt k) q g w9 = bd_lo (fun f k => bd_cg f fN fM vb vs cnt k) cnt f 0) ∧ va_P D vwCl [(h0, .inr (2, [.int 0, .long seed, .long w, .int (nI cnt), .int vb, .int pl, .int vs, .ref aS, .ref aA, .ref aB, .ref aN, .ref aM, .ref aL, .int wa, .int fo, .int se])), (aL, .inl (K.2.1, 62, .inl g)), (aN, .inl (K.1, 124, .inl fN)), (aM, .inl (K.1, 124, .inl fM))] H ∧ va_D A [(h0, .inr (2, [.int 0, .long seed, .long w, .int (nI cnt), .int vb, .int pl, .int vs, .ref aS, .ref aA, .ref aB, .ref aN, .ref aM, .ref aL, .int wa, .int fo, .int se])), (aL, .inl (K.2.1, 62, .inl g)), (aN, .inl (K.1, 124, .inl fN)), (aM, .inl (K.1, 124, .inl fM))] ∧ va_S A s.heap H locs ∧ lv_has ls 3 [(2, .int (nI q - 1)), (1, .int w9), (0, .ref h0)]) (fun (z : Nat × (Nat → Int32) × Int32) => match z with | (q, g, w9) => q) (fun z H locs ls hI ih_51 => ?_) (cnt, f, 0) ⟨Nat.le_refl _, rfl, hP, hD, hS, lv_sub hl [0, 1, 2] rfl⟩
        obtain ⟨q, g, w9⟩ := z
        obtain ⟨hq, hb8, hP, hD, hS, hl⟩ := hI
        have hP : va_P D vwCl [(h0, .inr (2, [.int 0, .long seed, .long w, .int (nI cnt), .int vb, .int pl, .int vs, .ref aS, .ref aA, .ref aB, .ref aN, .ref aM, .ref aL, .int wa, .int fo, .int se])), (aL, .inl (K.2.1, 62, .inl g)), (aN, .inl (K.1, 124, .inl fN)), (aM, .inl (K.1, 124, .inl fM))] H := hP
        have hD : va_D A [(h0, .inr (2, [.int 0, .long seed, .long w, .int (nI cnt), .int vb, .int pl, .int vs, .ref aS, .ref aA, .ref aB, .ref aN, .ref aM, .ref aL, .int wa, .int fo, .int se])), (aL, .inl (K.2.1, 62, .inl g)), (aN, .inl (K.1, 124, .inl fN)), (aM, .inl (K.1, 124, .inl fM))] := hD
        have hl : lv_has ls 3 [(2, .int (nI q - 1)), (1, .int w9), (0, .ref h0)] := hl
        refine lv_iload_n hx hb d_M_shorter_51 rfl (lv_at hl 0 rfl) ?_
        refine lv_if_lt (tgt := 81) hx hb d_M_shorter_52 (by decide) (fun r_52 => ?_) (fun r_52 => ?_)
        · have c_52 := r_52
          have c_52 := (bd_dn_lt (by omega)).mp r_52
          subst c_52
          refine lv_goto (tgt := 38) hx hb d_M_shorter_81 (by decide) ?_
          exact ih_38 (g, w9, (fl - 1)) _ _ _ ⟨(by rw [← hb9]; have h9 := ha9 r_39; rw [show fl = (fl - 1) + 1 by omega]; exact (bd_la_step hb8.symm r_39).symm), (fun h => by have h7 := bd_lo_cg hb8 h; have h9 := ha9 r_39; omega), hP, hD, hS, lv_sub hl [1, 2] rfl⟩ (show fl - 1 < fl by have := ha9 r_39; omega)
        · have c_52 := r_52
          have c_52 := mt (bd_dn_lt (by omega)).mpr r_52
          obtain ⟨k, rfl⟩ : ∃ k, q = k + 1 := ⟨q - 1, by omega⟩
          rw [nI_pred] at hl
          refine lv_aload_n hx hb d_M_shorter_55 rfl (lv_at hl 2 rfl) ?_
          refine lv_iload_n hx hb d_M_shorter_56 rfl (lv_at hl 0 rfl) ?_
          refine cx_ci (wr := []) (wN := [(h0, .inr (2, [.int 0, .long seed, .long w, .int (nI cnt), .int vb, .int pl, .int vs, .ref aS, .ref aA, .ref aB, .ref aN, .ref aM, .ref aL, .int wa, .int fo, .int se])), (aL, .inl (K.2.1, 62, .inl g)), (aN, .inl (K.1, 124, .inl fN)), (aM, .inl (K.1, 124, .inl fM))]) (va_runV (As := [.int (nI k)]) (rest := []) ⟨hx, hb, hml, hown, hw⟩ (c_M_canGo l G D K H.size h0 0 seed w cnt vb pl vs aS aA aB aN aM aL wa fo se g fN fM k (by omega) (by omega)) (cwV 1 hw (cx_gV k_393 k_395 ks_M_canGo k_3 k_396) rfl rfl rfl (by decide +kernel) ⟨Nat.le_of_ble_eq_true rfl, Nat.le_of_ble_eq_true rfl⟩) (cx_preV (q0 := 0) (ci := 2) hK hP hD hS hA hE rfl rfl [0, 1, 2, 3] rfl rfl (by decide)) rfl rfl hl.1 rfl (lv_room (Nat.le_of_ble_eq_true rfl)) d_M_shorter_57 ⟨Nat.le_of_ble_eq_true rfl, Nat.le_of_ble_eq_true rfl⟩) hP hD hS hA [0, 1, 2, 3] [] rfl rfl (by decide) (by decide) [0, 1, 2, 3] rfl rfl (by decide) (fun H locs hP hD hS => ?_)
          refine lv_if_ne (tgt := 66) hx hb d_M_shorter_60 (by decide) (fun r_60 => ?_) (fun r_60 => ?_)
          · have c_60 := r_60
            have e_i : bd_lo (fun f k => bd_cg f fN fM vb vs cnt k) (k + 1) g w9 = bd_lo (fun f k => bd_cg f fN fM vb vs cnt k) k (upd g k 0) 1 := by rw [bd_lo, if_neg r_60]
            refine lv_aload_n hx hb d_M_shorter_66 rfl (lv_at hl 2 rfl) ?_
            refine va_get (D := D) (ci := 2) (v := .ref aL) (C := "BuildDrawerModel") (T := TM) (N := 16) hx hb hw inM hown hK hP 0 rfl rfl 12 (by decide) (hw _ k_315) (fun _ h9 => h9) rfl d_M_shorter_67 ?_
            refine lv_iload_n hx hb d_M_shorter_70 rfl (lv_at hl 0 rfl) ?_
            refine lv_iconst (v := 0) hx hb d_M_shorter_71 (by decide) ?_
            refine va_zast hx hb hK hP hD hS 1 1 rfl rfl (vp_in_nI (n := k) (by omega) (by omega)) d_M_shorter_72 (fun H locs hP hD hS => ?_)
            have e_72 : upd g (nI k).toNatClampNeg (vp_nar .boolean 0) = upd g k 0 := by rw [nI_clamp (by omega), bd_nar0]
            have hP : va_P D vwCl [(h0, .inr (2, [.int 0, .long seed, .long w, .int (nI cnt), .int vb, .int pl, .int vs, .ref aS, .ref aA, .ref aB, .ref aN, .ref aM, .ref aL, .int wa, .int fo, .int se])), (aL, .inl (K.2.1, 62, .inl (upd g (nI k).toNatClampNeg (vp_nar .boolean 0)))), (aN, .inl (K.1, 124, .inl fN)), (aM, .inl (K.1, 124, .inl fM))] H := hP
            have hD : va_D A [(h0, .inr (2, [.int 0, .long seed, .long w, .int (nI cnt), .int vb, .int pl, .int vs, .ref aS, .ref aA, .ref aB, .ref aN, .ref aM, .ref aL, .int wa, .int fo, .int se])), (aL, .inl (K.2.1, 62, .inl (upd g (nI k).toNatClampNeg (vp_nar .boolean 0)))), (aN, .inl (K.1, 124, .inl fN)), (aM, .inl (K.1, 124, .inl fM))] := hD
            rw [e_72] at hP hD
            have hP : va_P D vwCl [(h0, .inr (2, [.int 0, .long seed, .long w, .int (nI cnt), .int vb, .int pl, .int vs, .ref aS, .ref aA, .ref aB, .ref aN, .ref aM, .ref aL, .int wa, .int fo, .int se])), (aL, .inl (K.2.1, 62, .inl (upd g k 0))), (aN, .inl (K.1, 124, .inl fN)), (aM, .inl (K.1, 124, .inl fM))] H := hP
            have hD : va_D A [(h0, .inr (2, [.int 0, .long seed, .long w, .int (nI cnt), .int vb, .int pl, .int vs, .ref aS, .ref aA, .ref aB, .ref aN, .ref aM, .ref aL, .int wa, .int fo, .int se])), (aL, .inl (K.2.1, 62, .inl (upd g k 0))), (aN, .inl (K.1, 124, .inl fN)), (aM, .inl (K.1, 124, .inl fM))] := hD
            refine lv_iconst (v := 1) hx hb d_M_shorter_73 (by decide) ?_
            refine lv_istore_n (lv' := [(1, .int 1), (2, .int (nI k)), (0, .ref h0)]) hx hb d_M_shorter_74 rfl hl (by decide) rfl (fun ls hl => ?_)
            refine lv_iinc (v := nI k - 1) (lv' := [(2, .int (nI k - 1)), (1, .int 1), (0, .ref h0)]) hx hb d_M_shorter_75 hl (k := 1) rfl (by exact cx_dec k) (by decide) rfl (fun ls hl => ?_)
            refine lv_goto (tgt := 51) hx hb d_M_shorter_78 (by decide) ?_
            exact ih_51 (k, (upd g k 0), 1) _ _ _ ⟨(by omega), (by rw [← hb8]; exact e_i.symm), hP, hD, hS, lv_sub hl [0, 1, 2] rfl⟩ (show k < k + 1 by omega)
          · have c_60 := r_60
            have e_i : bd_lo (fun f k => bd_cg f fN fM vb vs cnt k) (k + 1) g w9 = bd_lo (fun f k => bd_cg f fN fM vb vs cnt k) k g w9 := by rw [bd_lo, if_pos r_60]
            refine lv_goto (tgt := 75) hx hb d_M_shorter_63 (by decide) ?_
            refine lv_iinc (v := nI k - 1) (lv' := [(2, .int (nI k - 1)), (1, .int w9), (0, .ref h0)]) hx hb d_M_shorter_75 hl (k := 0) rfl (by exact cx_dec k) (by decide) rfl (fun ls hl => ?_)
            refine lv_goto (tgt := 51) hx hb d_M_shorter_78 (by decide) ?_
            exact ih_51 (k, g, w9) _ _ _ ⟨(by omega), (by rw [← hb8]; exact e_i.symm), hP, hD, hS, lv_sub hl [0, 1, 2] rfl⟩ (show k < k + 1 by omega)
    · have c_22 := mt (nI_leI (a := cnt) (b := i) (by omega) (by omega)).mpr r_22
      refine lv_aload_n hx hb d_M_shorter_25 rfl (lv_at hl 2 rfl) ?_
      refine va_get (D := D) (ci := 2) (v := .ref aL) (C := "BuildDrawerModel") (T := TM) (N := 16) hx hb hw inM hown hK hP 0 rfl rfl 12 (by decide) (hw _ k_315) (fun _ h9 => h9) rfl d_M_shorter_26 ?_
      refine lv_iload_n hx hb d_M_shorter_29 rfl (lv_at hl 0 rfl) ?_
      refine lv_iconst (v := 1) hx hb d_M_shorter_30 (by decide) ?_
      refine va_zast hx hb hK hP hD hS 1 1 rfl rfl (vp_in_nI (n := i) (by omega) (by omega)) d_M_shorter_31 (fun H locs hP hD hS => ?_)
      have e_31 : upd (bd_all i fL) (nI i).toNatClampNeg (vp_nar .boolean 1) = bd_all (i + 1) fL := by rw [nI_clamp (by omega)]; exact bd_filS _ _ _ rfl
      have hP : va_P D vwCl [(h0, .inr (2, [.int 0, .long seed, .long w, .int (nI cnt), .int vb, .int pl, .int vs, .ref aS, .ref aA, .ref aB, .ref aN, .ref aM, .ref aL, .int wa, .int fo, .int se])), (aL, .inl (K.2.1, 62, .inl (upd (bd_all i fL) (nI i).toNatClampNeg (vp_nar .boolean 1)))), (aN, .inl (K.1, 124, .inl fN)), (aM, .inl (K.1, 124, .inl fM))] H := hP
      have hD : va_D A [(h0, .inr (2, [.int 0, .long seed, .long w, .int (nI cnt), .int vb, .int pl, .int vs, .ref aS, .ref aA, .ref aB, .ref aN, .ref aM, .ref aL, .int wa, .int fo, .int se])), (aL, .inl (K.2.1, 62, .inl (upd (bd_all i fL) (nI i).toNatClampNeg (vp_nar .boolean 1)))), (aN, .inl (K.1, 124, .inl fN)), (aM, .inl (K.1, 124, .inl fM))] := hD
      rw [e_31] at hP hD
      have hP : va_P D vwCl [(h0, .inr (2, [.int 0, .long seed, .long w, .int (nI cnt), .int vb, .int pl, .int vs, .ref aS, .ref aA, .ref aB, .ref aN, .ref aM, .ref aL, .int wa, .int fo, .int se])), (aL, .inl (K.2.1, 62, .inl (bd_all (i + 1) fL))), (aN, .inl (K.1, 124, .inl fN)), (aM, .inl (K.1, 124, .inl fM))] H := hP
      have hD : va_D A [(h0, .inr (2, [.int 0, .long seed, .long w, .int (nI cnt), .int vb, .int pl, .int vs, .ref aS, .ref aA, .ref aB, .ref aN, .ref aM, .ref aL, .int wa, .int fo, .int se])), (aL, .inl (K.2.1, 62, .inl (bd_all (i + 1) fL))), (aN, .inl (K.1, 124, .inl fN)), (aM, .inl (K.1, 124, .inl fM))] := hD
      refine lv_iinc (v := nI (i + 1)) (lv' := [(2, .int (nI (i + 1))), (1, .int (bd_ho vb vs (bd_ml fL fM cnt))), (0, .ref h0)]) hx hb d_M_shorter_32 hl (k := 0) rfl (by exact cx_inc i) (by decide) rfl (fun ls hl => ?_)
      refine lv_goto (tgt := 17) hx hb d_M_shorter_35 (by decide) ?_
      exact ih_17 (i + 1) _ _ _ ⟨(by omega), hP, hD, hS, lv_sub hl [0, 1, 2] rfl⟩ (by omega)
