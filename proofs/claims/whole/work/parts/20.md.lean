/-! long words by their numbers (rows turned from kit/laws/BITS.to-paste) -/
theorem mw_tb (n : Nat) : (lN n).toBitVec = BitVec.ofNat 64 n := rfl
theorem mw_inj {a b : Int64} (h : a.toBitVec = b.toBitVec) : a = b := Int64.toBitVec_inj.mp h
theorem mw_tn {n : Nat} (h : n < 2 ^ 64) : (lN n).toBitVec.toNat = n := by rw [mw_tb, BitVec.toNat_ofNat, Nat.mod_eq_of_lt h]
theorem mw_of (x : Int64) : ∃ n, n < 2 ^ 64 ∧ x = lN n := ⟨x.toBitVec.toNat, x.toBitVec.isLt, mw_inj (by rw [mw_tb]; simp)⟩
theorem mw_cu : ∀ k, k < 64 → ((nI k).toInt64.toUInt64 &&& Int64.toUInt64 63) = UInt64.ofNat k := by decide +kernel
theorem mw_shr {n k : Nat} (hn : n < 2 ^ 64) (hk : k < 64) : ((lN n).toUInt64 >>> ((nI k).toInt64.toUInt64 &&& Int64.toUInt64 63)).toInt64 = lN (n / 2 ^ k) := by
  rw [mw_cu k hk]
  apply mw_inj
  apply BitVec.eq_of_toNat_eq
  show ((lN n).toUInt64 >>> UInt64.ofNat k).toNat = (BitVec.ofNat 64 _).toNat
  have h1 : (UInt64.ofNat k).toNat = k := by
    show (BitVec.ofNat 64 k).toNat = k
    rw [BitVec.toNat_ofNat, Nat.mod_eq_of_lt (by omega)]
  have h2 : (lN n).toUInt64.toNat = n := mw_tn hn
  rw [UInt64.toNat_shiftRight, h1, h2, Nat.mod_eq_of_lt hk, Nat.shiftRight_eq_div_pow, BitVec.toNat_ofNat, Nat.mod_eq_of_lt (Nat.lt_of_le_of_lt (Nat.div_le_self _ _) hn)]
/-- the highest 31 bits as a number -/
theorem bd_X (w : Int64) : ∃ v : Nat, v < 2 ^ 31 ∧ (w.toUInt64 >>> ((33 : Int32).toInt64.toUInt64 &&& Int64.toUInt64 63)).toInt64 = lN v := by
  obtain ⟨v, hv, e⟩ := mw_of w
  refine ⟨v / 2 ^ 33, by omega, ?_⟩
  rw [e]
  exact mw_shr (k := 33) hv (by decide)
def bd_Q (n : Int32) : Prop := ∃ k : Nat, 0 < k ∧ k < 2 ^ 31 ∧ n = nI k
theorem bd_Qp {n : Int32} (h : bd_Q n) : 0 < n := by
  obtain ⟨k, h1, h2, rfl⟩ := h
  exact nI_lt (a := 0) h1 h2
theorem bd_Qn {n : Int32} (h : bd_Q n) : ¬ n.toInt64 = 0 := by
  obtain ⟨k, h1, h2, rfl⟩ := h
  rw [nI_l h2]
  intro e
  have := (pk_lEQ (a := k) (b := 0) (by omega) (by omega)).mp e
  omega
theorem bd_cM {w : Int64} {n : Int32} (h : bd_Q n) : ((((bd_w w).toUInt64 >>> ((33 : Int32).toInt64.toUInt64 &&& Int64.toUInt64 63)).toInt64) - (((bd_w w).toUInt64 >>> ((33 : Int32).toInt64.toUInt64 &&& Int64.toUInt64 63)).toInt64) / (n.toInt64) * (n.toInt64)).toInt32 = bd_c w n := by
  rw [bd_c, if_pos (bd_Qp h), bd_hi]
  obtain ⟨v, hv, e⟩ := bd_X (bd_w w)
  obtain ⟨k, h1, h2, rfl⟩ := h
  rw [e, nI_l h2, pk_lRem (by omega) h1 (by omega), lN_i, lN_i, pk_rem hv h1 h2]
/-- a chance below k is a number below k -/
theorem bd_c_lt {w : Int64} {k : Nat} (h1 : 0 < k) (h2 : k < 2 ^ 31) : ∃ j, j < k ∧ bd_c w (nI k) = nI j := by
  rw [bd_c, if_pos (show (0 : Int32) < nI k from nI_lt (a := 0) h1 h2), bd_hi]
  obtain ⟨v, hv, e⟩ := bd_X (bd_w w)
  rw [e, lN_i, pk_rem hv h1 h2]
  exact ⟨v % k, Nat.mod_lt _ h1, rfl⟩
def bd_pl (seed : Int64) (kind size : Int32) : Int32 := if kind = 1 then bd_c (bd_w0 seed kind size) 16 else 8
theorem bd_pl_pb (seed : Int64) (kind size : Int32) : bd_bit (bd_pl seed kind size) = bd_pb seed kind size := by
  unfold bd_pl bd_pb
  split
  · rfl
  · rfl
theorem bd_skE {k : Nat} (h : k < 8) (h1 : ¬ k = 1) (h2 : ¬ k = 2) : nI k = bd_sk k := by
  rcases (show k = 0 ∨ k = 3 ∨ k = 4 ∨ k = 5 ∨ k = 6 ∨ k = 7 by omega) with rfl | rfl | rfl | rfl | rfl | rfl <;> rfl
section CXT
variable {p : Program} {l : Launch} {e : Env} {R : Room} {s : State} {m : MethodId} {args : Array Value} {below : List Frame} {meth : Method} {c : Code} {H : Heap} {locs : List Loc} {cells slots : Nat} {Q : State → Prop} {pc : Nat} {ls : Array Slot}
/-- roads that meet -/
theorem cx_cut {α : Type} (I : α → Heap → List Loc → Array Slot → Prop) {pc2 : Nat} {st2 : α → List Value} {st : List Value} (k : ∀ a H locs ls, I a H locs ls → W p l e R s m args below meth c H locs cells slots Q (F0 m pc2 ls (st2 a)))
    (h : (∀ a H locs ls, I a H locs ls → W p l e R s m args below meth c H locs cells slots Q (F0 m pc2 ls (st2 a))) → W p l e R s m args below meth c H locs cells slots Q (F0 m pc ls st)) : W p l e R s m args below meth c H locs cells slots Q (F0 m pc ls st) := h k
end CXT
/-- a stretch of a row: n from fr on -/
def bd_fio (g : Nat → Int32) (fr n : Nat) (f : Nat → Int32) : Nat → Int32 := fun j => if fr ≤ j ∧ j < fr + n then g (j - fr) else f j
theorem bd_fio0 (g f : Nat → Int32) (fr : Nat) : bd_fio g fr 0 f = f := by
  funext j
  have h : ¬ (fr ≤ j ∧ j < fr + 0) := by omega
  simp only [bd_fio, if_neg h]
theorem bd_fioS (g f : Nat → Int32) (fr n : Nat) {x : Int32} (hx : x = g n) : upd (bd_fio g fr n f) (fr + n) x = bd_fio g fr (n + 1) f := by
  funext j
  by_cases h : j = fr + n
  · subst h
    have h2 : fr ≤ fr + n ∧ fr + n < fr + (n + 1) := by omega
    rw [pk_us, bd_fio, if_pos h2, hx, show fr + n - fr = n by omega]
  · rw [pk_un h]
    by_cases h2 : fr ≤ j ∧ j < fr + n
    · have h3 : fr ≤ j ∧ j < fr + (n + 1) := by omega
      simp only [bd_fio, if_pos h2, if_pos h3]
    · have h3 : ¬ (fr ≤ j ∧ j < fr + (n + 1)) := by omega
      simp only [bd_fio, if_neg h2, if_neg h3]
theorem bd_or0 (x : Int32) : x ||| 0 = x := Int32.or_zero
theorem bd_add0 (x : Int32) : x + 0 = x := Int32.add_zero x
set_option maxHeartbeats 4000000 in
set_option maxRecDepth 100000 in
theorem c_M_chance (l : Launch) (G : cx_G) (D : va_G) (K : cx_KT) (sz : Nat) (h0 : Nat) (cd : Int32) (seed : Int64) (w : Int64) (cnt : Nat) (vb : Int32) (pl : Int32) (vs : Int32) (aS : Nat) (aA : Nat) (aB : Nat) (aN : Nat) (aM : Nat) (aL : Nat) (wa : Int32) (fo : Int32) (se : Int32) (n : Int32) (hq : bd_Q n) : Met l y_M_chance w_M_chance ({ frames := 0, cells := 0, slots := 0, locals := 0 }) (cx_Pc G D (cx_ty K) [(h0, .inr (2, [.int cd, .long seed, .long w, .int (nI cnt), .int vb, .int pl, .int vs, .ref aS, .ref aA, .ref aB, .ref aN, .ref aM, .ref aL, .int wa, .int fo, .int se]))] sz [.ref h0, .int n]) (cx_Qi (bd_c w n) D (cx_ty K) [(h0, .inr (2, [.int cd, .long seed, .long (bd_w w), .int (nI cnt), .int vb, .int pl, .int vs, .ref aS, .ref aA, .ref aB, .ref aN, .ref aM, .ref aL, .int wa, .int fo, .int se]))] (va_A [(h0, .inr (2, [.int cd, .long seed, .long w, .int (nI cnt), .int vb, .int pl, .int vs, .ref aS, .ref aA, .ref aB, .ref aN, .ref aM, .ref aL, .int wa, .int fo, .int se]))] sz)) 0 0 (va_A [(h0, .inr (2, [.int cd, .long seed, .long w, .int (nI cnt), .int vb, .int pl, .int vs, .ref aS, .ref aA, .ref aB, .ref aN, .ref aM, .ref aL, .int wa, .int fo, .int se]))] sz) := by
  refine Met.ofW (cc := prog_4_method_3_code) (maxL := 2) (ret := (some .int)) (by decide) rfl ?_
  intro p e s m args below meth c s₁ B hml hv
  obtain ⟨rfl, hsz, hP, hK, hD0, hE⟩ := hv
  have hx := B.exec
  have hb := B.bytes
  have hr := B.returns
  have hts := atoms_spec (ws := w_M_chance) B.pre
  have hw : ∀ w ∈ cw, w.before _ s = true := fun w h => hts w (List.mem_cons_of_mem _ h)
  have hown : s.vm.findClass "BuildDrawerModel" = some m.cls := findClass_of_methodNamed B.named
  have hlocks := B.notSynchronized
  subst hsz
  have hD := hD0.self (sz := s.heap.size)
  generalize hAe : va_A [(h0, .inr (2, [.int cd, .long seed, .long w, .int (nI cnt), .int vb, .int pl, .int vs, .ref aS, .ref aA, .ref aB, .ref aN, .ref aM, .ref aL, .int wa, .int fo, .int se]))] s.heap.size = A at hD hE ⊢
  have hA : ∀ q : Nat, s.heap.size ≤ q → A q := fun q h => by rw [← hAe]; exact Or.inr h
  have hS : va_S A s.heap s.heap [] := va_S.rf
  have hl := lv_entry ([.ref h0, .int n]) (n := 2) (Nat.le_of_ble_eq_true rfl)
  rw [lg_entry_eq]
  generalize (lg_sl ([.ref h0, .int n]) ++ List.replicate (2 - (lg_sl ([.ref h0, .int n])).length) Slot.unset).toArray = ls at hl ⊢
  have hl : lv_has ls 2 [(0, .ref h0), (1, .int n)] := hl
  refine lv_aload_n hx hb d_M_chance_0 rfl (lv_at hl 0 rfl) ?_
  refine lv_aload_n hx hb d_M_chance_1 rfl (lv_at hl 0 rfl) ?_
  refine va_get (D := D) (ci := 2) (v := .long w) (C := "BuildDrawerModel") (T := TM) (N := 16) hx hb hw inM hown hK hP 0 rfl rfl 2 (by decide) (hw _ k_305) (fun _ h9 => h9) rfl d_M_chance_2 ?_
  refine lv_ldc2 (v := 6364136223846793005) hx hb hown (hw _ k_368) d_M_chance_5 ?_
  refine lv_lmul hx hb d_M_chance_8 ?_
  refine lv_ldc2 (v := 1442695040888963407) hx hb hown (hw _ k_369) d_M_chance_9 ?_
  refine lv_ladd hx hb d_M_chance_12 ?_
  refine cx_tl (y := bd_w w) (rfl) ?_
  refine va_put (D := D) (ci := 2) (v := .long (bd_w w)) (ty := .long) (C := "BuildDrawerModel") (T := TM) (N := 16) hx hb hw inM tyM tyM_ok nmM hown hK hP hD hS 0 rfl rfl 2 (by decide) (hw _ k_305) (fun _ h9 => h9) rfl (by decide +kernel) rfl rfl (Nat.le_of_ble_eq_true rfl) d_M_chance_13 (fun H locs hP hD hS => ?_)
  have hP : va_P D vwCl [(h0, .inr (2, [.int cd, .long seed, .long (bd_w w), .int (nI cnt), .int vb, .int pl, .int vs, .ref aS, .ref aA, .ref aB, .ref aN, .ref aM, .ref aL, .int wa, .int fo, .int se]))] H := hP
  have hD : va_D A [(h0, .inr (2, [.int cd, .long seed, .long (bd_w w), .int (nI cnt), .int vb, .int pl, .int vs, .ref aS, .ref aA, .ref aB, .ref aN, .ref aM, .ref aL, .int wa, .int fo, .int se]))] := hD
  refine lv_aload_n hx hb d_M_chance_16 rfl (lv_at hl 0 rfl) ?_
  refine va_get (D := D) (ci := 2) (v := .long (bd_w w)) (C := "BuildDrawerModel") (T := TM) (N := 16) hx hb hw inM hown hK hP 0 rfl rfl 2 (by decide) (hw _ k_305) (fun _ h9 => h9) rfl d_M_chance_17 ?_
  refine lv_bipush (v := 33) hx hb d_M_chance_20 (by decide) ?_
  refine lv_lushr (v := ((bd_w w).toUInt64 >>> ((33 : Int32).toInt64.toUInt64 &&& Int64.toUInt64 63)).toInt64) hx hb d_M_chance_22 (rfl) ?_
  refine lv_iload_n hx hb d_M_chance_23 rfl (lv_at hl 1 rfl) ?_
  refine lv_i2l (v := n.toInt64) hx hb d_M_chance_24 (rfl) ?_
  refine lv_lrem hx hb d_M_chance_25 (bd_Qn hq) ?_
  refine lv_l2i (v := bd_c w n) hx hb d_M_chance_26 (bd_cM hq) ?_
  exact cx_iret hx hb hr hlocks hK hP hD hS d_M_chance_27 (rfl) (rfl)
set_option maxHeartbeats 4000000 in
set_option maxRecDepth 100000 in
theorem c_M_sortOf (l : Launch) (G : cx_G) (D : va_G) (K : cx_KT) (sz : Nat) (k : Nat) (hk : k < 8) : Met l y_M_sortOf w_M_sortOf ({ frames := 0, cells := 0, slots := 0, locals := 0 }) (cx_Pc G D (cx_ty K) [] sz [.int (nI k)]) (cx_Qi (bd_sk k) D (cx_ty K) [] (va_A [] sz)) 0 0 (va_A [] sz) := by
  refine Met.ofW (cc := prog_4_method_4_code) (maxL := 1) (ret := (some .int)) (by decide) rfl ?_
  intro p e s m args below meth c s₁ B hml hv
  obtain ⟨rfl, hsz, hP, hK, hD0, hE⟩ := hv
  have hx := B.exec
  have hb := B.bytes
  have hr := B.returns
  have hts := atoms_spec (ws := w_M_sortOf) B.pre
  have hw : ∀ w ∈ cw, w.before _ s = true := fun w h => hts w (List.mem_cons_of_mem _ h)
  have hown : s.vm.findClass "BuildDrawerModel" = some m.cls := findClass_of_methodNamed B.named
  have hlocks := B.notSynchronized
  subst hsz
  have hD := hD0.self (sz := s.heap.size)
  generalize hAe : va_A [] s.heap.size = A at hD hE ⊢
  have hA : ∀ q : Nat, s.heap.size ≤ q → A q := fun q h => by rw [← hAe]; exact Or.inr h
  have hS : va_S A s.heap s.heap [] := va_S.rf
  have hl := lv_entry ([.int (nI k)]) (n := 1) (Nat.le_of_ble_eq_true rfl)
  rw [lg_entry_eq]
  generalize (lg_sl ([.int (nI k)]) ++ List.replicate (1 - (lg_sl ([.int (nI k)])).length) Slot.unset).toArray = ls at hl ⊢
  have hl : lv_has ls 1 [(0, .int (nI k))] := hl
  refine lv_iload_n hx hb d_M_sortOf_0 rfl (lv_at hl 0 rfl) ?_
  refine lv_iconst (v := 1) hx hb d_M_sortOf_1 (by decide) ?_
  refine lv_icmp_ne (tgt := 9) hx hb d_M_sortOf_2 (by decide) (fun r_2 => ?_) (fun r_2 => ?_)
  · have c_2 := mt (nI_eq (a := k) (b := 1) (by omega) (by omega)).mpr r_2
    refine lv_iload_n hx hb d_M_sortOf_9 rfl (lv_at hl 0 rfl) ?_
    refine lv_iconst (v := 2) hx hb d_M_sortOf_10 (by decide) ?_
    refine lv_icmp_ne (tgt := 18) hx hb d_M_sortOf_11 (by decide) (fun r_11 => ?_) (fun r_11 => ?_)
    · have c_11 := mt (nI_eq (a := k) (b := 2) (by omega) (by omega)).mpr r_11
      refine lv_iload_n hx hb d_M_sortOf_18 rfl (lv_at hl 0 rfl) ?_
      exact cx_iret hx hb hr hlocks hK hP hD hS d_M_sortOf_19 (bd_skE hk c_2 c_11) (rfl)
    · have c_11 := (nI_eq (a := k) (b := 2) (by omega) (by omega)).mp r_11
      refine lv_iconst (v := 1) hx hb d_M_sortOf_14 (by decide) ?_
      refine lv_goto (tgt := 19) hx hb d_M_sortOf_15 (by decide) ?_
      exact cx_iret hx hb hr hlocks hK hP hD hS d_M_sortOf_19 (by subst c_11; rfl) (rfl)
  · have c_2 := (nI_eq (a := k) (b := 1) (by omega) (by omega)).mp r_2
    refine lv_iconst (v := 2) hx hb d_M_sortOf_5 (by decide) ?_
    refine lv_goto (tgt := 19) hx hb d_M_sortOf_6 (by decide) ?_
    exact cx_iret hx hb hr hlocks hK hP hD hS d_M_sortOf_19 (by subst c_2; rfl) (rfl)
set_option maxHeartbeats 4000000 in
set_option maxRecDepth 100000 in
theorem c_M_isSuch (l : Launch) (G : cx_G) (D : va_G) (K : cx_KT) (sz : Nat) (k : Int32) (z : Int32)  : Met l y_M_isSuch w_M_isSuch ({ frames := 0, cells := 0, slots := 0, locals := 0 }) (cx_Pc G D (cx_ty K) [] sz [.int k, .int z]) (cx_Qi (bd_can k z) D (cx_ty K) [] (va_A [] sz)) 0 0 (va_A [] sz) := by
  refine Met.ofW (cc := prog_4_method_7_code) (maxL := 2) (ret := (some .boolean)) (by decide) rfl ?_
  intro p e s m args below meth c s₁ B hml hv
  obtain ⟨rfl, hsz, hP, hK, hD0, hE⟩ := hv
  have hx := B.exec
  have hb := B.bytes
  have hr := B.returns
  have hts := atoms_spec (ws := w_M_isSuch) B.pre
  have hw : ∀ w ∈ cw, w.before _ s = true := fun w h => hts w (List.mem_cons_of_mem _ h)
  have hown : s.vm.findClass "BuildDrawerModel" = some m.cls := findClass_of_methodNamed B.named
  have hlocks := B.notSynchronized
  subst hsz
  have hD := hD0.self (sz := s.heap.size)
  generalize hAe : va_A [] s.heap.size = A at hD hE ⊢
  have hA : ∀ q : Nat, s.heap.size ≤ q → A q := fun q h => by rw [← hAe]; exact Or.inr h
  have hS : va_S A s.heap s.heap [] := va_S.rf
  have hl := lv_entry ([.int k, .int z]) (n := 2) (Nat.le_of_ble_eq_true rfl)
  rw [lg_entry_eq]
  generalize (lg_sl ([.int k, .int z]) ++ List.replicate (2 - (lg_sl ([.int k, .int z])).length) Slot.unset).toArray = ls at hl ⊢
  have hl : lv_has ls 2 [(0, .int k), (1, .int z)] := hl
  refine lv_iload_n hx hb d_M_isSuch_0 rfl (lv_at hl 0 rfl) ?_
  refine lv_if_lt (tgt := 24) hx hb d_M_isSuch_1 (by decide) (fun r_1 => ?_) (fun r_1 => ?_)
  · have c_1 := r_1
    refine lv_iconst (v := 0) hx hb d_M_isSuch_24 (by decide) ?_
    exact cx_zret hx hb hr hlocks hK hP hD hS d_M_isSuch_25 (rfl) (by simp only [bd_can, if_pos r_1]) (rfl)
  · have c_1 := r_1
    refine lv_iload_n hx hb d_M_isSuch_4 rfl (lv_at hl 0 rfl) ?_
    refine lv_bipush (v := 8) hx hb d_M_isSuch_5 (by decide) ?_
    refine lv_icmp_ge (tgt := 24) hx hb d_M_isSuch_7 (by decide) (fun r_7 => ?_) (fun r_7 => ?_)
    · have c_7 := r_7
      refine lv_iconst (v := 0) hx hb d_M_isSuch_24 (by decide) ?_
      exact cx_zret hx hb hr hlocks hK hP hD hS d_M_isSuch_25 (rfl) (by simp only [bd_can, if_neg r_1, if_pos r_7]) (rfl)
    · have c_7 := r_7
      refine lv_iload_n hx hb d_M_isSuch_10 rfl (lv_at hl 1 rfl) ?_
      refine lv_if_lt (tgt := 24) hx hb d_M_isSuch_11 (by decide) (fun r_11 => ?_) (fun r_11 => ?_)
      · have c_11 := r_11
        refine lv_iconst (v := 0) hx hb d_M_isSuch_24 (by decide) ?_
        exact cx_zret hx hb hr hlocks hK hP hD hS d_M_isSuch_25 (rfl) (by simp only [bd_can, if_neg r_1, if_neg r_7, if_pos r_11]) (rfl)
      · have c_11 := r_11
        refine lv_iload_n hx hb d_M_isSuch_14 rfl (lv_at hl 1 rfl) ?_
        refine lv_bipush (v := 60) hx hb d_M_isSuch_15 (by decide) ?_
        refine lv_icmp_gt (tgt := 24) hx hb d_M_isSuch_17 (by decide) (fun r_17 => ?_) (fun r_17 => ?_)
        · have c_17 := r_17
          refine lv_iconst (v := 0) hx hb d_M_isSuch_24 (by decide) ?_
          exact cx_zret hx hb hr hlocks hK hP hD hS d_M_isSuch_25 (rfl) (by simp only [bd_can, if_neg r_1, if_neg r_7, if_neg r_11, if_pos r_17]) (rfl)
        · have c_17 := r_17
          refine lv_iconst (v := 1) hx hb d_M_isSuch_20 (by decide) ?_
          refine lv_goto (tgt := 25) hx hb d_M_isSuch_21 (by decide) ?_
          exact cx_zret hx hb hr hlocks hK hP hD hS d_M_isSuch_25 (rfl) (by simp only [bd_can, if_neg r_1, if_neg r_7, if_neg r_11, if_neg r_17]) (rfl)
set_option maxHeartbeats 4000000 in
set_option maxRecDepth 100000 in
theorem c_M_drawB (l : Launch) (G : cx_G) (D : va_G) (K : cx_KT) (sz : Nat) (h0 : Nat) (cd : Int32) (seed : Int64) (w : Int64) (cnt : Nat) (vb : Int32) (pl : Int32) (vs : Int32) (aS : Nat) (aA : Nat) (aB : Nat) (aN : Nat) (aM : Nat) (aL : Nat) (wa : Int32) (fo : Int32) (se : Int32) (so : Int32)  : Met l y_M_drawB w_M_drawB ({ frames := 1, cells := 0, slots := 0, locals := 21 }) (cx_Pc G D (cx_ty K) [(h0, .inr (2, [.int cd, .long seed, .long w, .int (nI cnt), .int vb, .int pl, .int vs, .ref aS, .ref aA, .ref aB, .ref aN, .ref aM, .ref aL, .int wa, .int fo, .int se]))] sz [.ref h0, .int so]) (cx_Qi (bd_b so (bd_bit pl) w) D (cx_ty K) [(h0, .inr (2, [.int cd, .long seed, .long (bd_w3 so w), .int (nI cnt), .int vb, .int pl, .int vs, .ref aS, .ref aA, .ref aB, .ref aN, .ref aM, .ref aL, .int wa, .int fo, .int se]))] (va_A [(h0, .inr (2, [.int cd, .long seed, .long w, .int (nI cnt), .int vb, .int pl, .int vs, .ref aS, .ref aA, .ref aB, .ref aN, .ref aM, .ref aL, .int wa, .int fo, .int se]))] sz)) 0 0 (va_A [(h0, .inr (2, [.int cd, .long seed, .long w, .int (nI cnt), .int vb, .int pl, .int vs, .ref aS, .ref aA, .ref aB, .ref aN, .ref aM, .ref aL, .int wa, .int fo, .int se]))] sz) := by
  refine Met.ofW (cc := prog_4_method_5_code) (maxL := 3) (ret := (some .int)) (by decide) rfl ?_
  intro p e s m args below meth c s₁ B hml hv
  obtain ⟨rfl, hsz, hP, hK, hD0, hE⟩ := hv
  have hx := B.exec
  have hb := B.bytes
  have hr := B.returns
  have hts := atoms_spec (ws := w_M_drawB) B.pre
  have hw : ∀ w ∈ cw, w.before _ s = true := fun w h => hts w (List.mem_cons_of_mem _ h)
  have hown : s.vm.findClass "BuildDrawerModel" = some m.cls := findClass_of_methodNamed B.named
  have hlocks := B.notSynchronized
  subst hsz
  have hD := hD0.self (sz := s.heap.size)
  generalize hAe : va_A [(h0, .inr (2, [.int cd, .long seed, .long w, .int (nI cnt), .int vb, .int pl, .int vs, .ref aS, .ref aA, .ref aB, .ref aN, .ref aM, .ref aL, .int wa, .int fo, .int se]))] s.heap.size = A at hD hE ⊢
  have hA : ∀ q : Nat, s.heap.size ≤ q → A q := fun q h => by rw [← hAe]; exact Or.inr h
  have hS : va_S A s.heap s.heap [] := va_S.rf
  have hl := lv_entry ([.ref h0, .int so]) (n := 3) (Nat.le_of_ble_eq_true rfl)
  rw [lg_entry_eq]
  generalize (lg_sl ([.ref h0, .int so]) ++ List.replicate (3 - (lg_sl ([.ref h0, .int so])).length) Slot.unset).toArray = ls at hl ⊢
  have hl : lv_has ls 3 [(0, .ref h0), (1, .int so)] := hl
  refine lv_iload_n hx hb d_M_drawB_0 rfl (lv_at hl 1 rfl) ?_
  by_cases z_0 : so = 0
  · refine lv_tableIn (tgt := 44) (off := 43) hx hb d_M_drawB_1 (by rw [z_0]; decide) (by rw [z_0]; decide) (by rw [z_0]; rfl) (by decide) ?_
    refine lv_aload_n hx hb d_M_drawB_44 rfl (lv_at hl 0 rfl) ?_
    refine lv_bipush (v := 100) hx hb d_M_drawB_45 (by decide) ?_
    refine cx_ci (wr := []) (wN := [(h0, .inr (2, [.int cd, .long seed, .long (bd_w w), .int (nI cnt), .int vb, .int pl, .int vs, .ref aS, .ref aA, .ref aB, .ref aN, .ref aM, .ref aL, .int wa, .int fo, .int se]))]) (va_runV (As := [.int 100]) (rest := []) ⟨hx, hb, hml, hown, hw⟩ (c_M_chance l G D K s.heap.size h0 cd seed w cnt vb pl vs aS aA aB aN aM aL wa fo se 100 ⟨100, by omega, by omega, rfl⟩) (cwV 1 hw (cx_gV k_364 k_366 ks_M_chance k_3 k_367) rfl rfl rfl (by decide +kernel) ⟨Nat.le_of_ble_eq_true rfl, Nat.le_of_ble_eq_true rfl⟩) (cx_preV (q0 := 0) (ci := 2) hK hP hD hS hA hE rfl rfl [0] rfl rfl (by decide)) rfl rfl hl.1 rfl (lv_room (Nat.le_of_ble_eq_true rfl)) d_M_drawB_47 ⟨Nat.le_of_ble_eq_true rfl, Nat.le_of_ble_eq_true rfl⟩) hP hD hS hA [0] [] rfl rfl (by decide) (by decide) [0] rfl rfl (by decide) (fun H locs hP hD hS => ?_)
    exact cx_iret hx hb hr hlocks hK hP hD hS d_M_drawB_50 (by simp only [bd_b, if_pos z_0]) (by rw [bd_w3, if_neg (by rw [z_0]; decide)])
  by_cases z_1 : so = 1
  · refine lv_tableIn (tgt := 51) (off := 50) hx hb d_M_drawB_1 (by rw [z_1]; decide) (by rw [z_1]; decide) (by rw [z_1]; rfl) (by decide) ?_
    refine lv_aload_n hx hb d_M_drawB_51 rfl (lv_at hl 0 rfl) ?_
    refine lv_bipush (v := 8) hx hb d_M_drawB_52 (by decide) ?_
    refine cx_ci (wr := []) (wN := [(h0, .inr (2, [.int cd, .long seed, .long (bd_w w), .int (nI cnt), .int vb, .int pl, .int vs, .ref aS, .ref aA, .ref aB, .ref aN, .ref aM, .ref aL, .int wa, .int fo, .int se]))]) (va_runV (As := [.int 8]) (rest := []) ⟨hx, hb, hml, hown, hw⟩ (c_M_chance l G D K s.heap.size h0 cd seed w cnt vb pl vs aS aA aB aN aM aL wa fo se 8 ⟨8, by omega, by omega, rfl⟩) (cwV 1 hw (cx_gV k_364 k_366 ks_M_chance k_3 k_367) rfl rfl rfl (by decide +kernel) ⟨Nat.le_of_ble_eq_true rfl, Nat.le_of_ble_eq_true rfl⟩) (cx_preV (q0 := 0) (ci := 2) hK hP hD hS hA hE rfl rfl [0] rfl rfl (by decide)) rfl rfl hl.1 rfl (lv_room (Nat.le_of_ble_eq_true rfl)) d_M_drawB_54 ⟨Nat.le_of_ble_eq_true rfl, Nat.le_of_ble_eq_true rfl⟩) hP hD hS hA [0] [] rfl rfl (by decide) (by decide) [0] rfl rfl (by decide) (fun H locs hP hD hS => ?_)
    exact cx_iret hx hb hr hlocks hK hP hD hS d_M_drawB_57 (by simp only [bd_b, if_neg z_0, if_pos z_1]) (by rw [bd_w3, if_neg (by rw [z_1]; decide)])
  by_cases z_2 : so = 2
  · refine lv_tableIn (tgt := 58) (off := 57) hx hb d_M_drawB_1 (by rw [z_2]; decide) (by rw [z_2]; decide) (by rw [z_2]; rfl) (by decide) ?_
    refine lv_aload_n hx hb d_M_drawB_58 rfl (lv_at hl 0 rfl) ?_
    refine lv_sipush (v := 256) hx hb d_M_drawB_59 (by decide) ?_
    refine cx_ci (wr := []) (wN := [(h0, .inr (2, [.int cd, .long seed, .long (bd_w w), .int (nI cnt), .int vb, .int pl, .int vs, .ref aS, .ref aA, .ref aB, .ref aN, .ref aM, .ref aL, .int wa, .int fo, .int se]))]) (va_runV (As := [.int 256]) (rest := []) ⟨hx, hb, hml, hown, hw⟩ (c_M_chance l G D K s.heap.size h0 cd seed w cnt vb pl vs aS aA aB aN aM aL wa fo se 256 ⟨256, by omega, by omega, rfl⟩) (cwV 1 hw (cx_gV k_364 k_366 ks_M_chance k_3 k_367) rfl rfl rfl (by decide +kernel) ⟨Nat.le_of_ble_eq_true rfl, Nat.le_of_ble_eq_true rfl⟩) (cx_preV (q0 := 0) (ci := 2) hK hP hD hS hA hE rfl rfl [0] rfl rfl (by decide)) rfl rfl hl.1 rfl (lv_room (Nat.le_of_ble_eq_true rfl)) d_M_drawB_62 ⟨Nat.le_of_ble_eq_true rfl, Nat.le_of_ble_eq_true rfl⟩) hP hD hS hA [0] [] rfl rfl (by decide) (by decide) [0] rfl rfl (by decide) (fun H locs hP hD hS => ?_)
    refine lv_aload_n hx hb d_M_drawB_65 rfl (lv_at hl 0 rfl) ?_
    refine va_get (D := D) (ci := 2) (v := .int pl) (C := "BuildDrawerModel") (T := TM) (N := 16) hx hb hw inM hown hK hP 0 rfl rfl 5 (by decide) (hw _ k_308) (fun _ h9 => h9) rfl d_M_drawB_66 ?_
    refine lv_bipush (v := 8) hx hb d_M_drawB_69 (by decide) ?_
    refine lv_icmp_ge (tgt := 83) hx hb d_M_drawB_71 (by decide) (fun r_71 => ?_) (fun r_71 => ?_)
    · have c_71 := r_71
      refine lv_iconst (v := 0) hx hb d_M_drawB_83 (by decide) ?_
      refine lv_ior hx hb d_M_drawB_84 ?_
      exact cx_iret hx hb hr hlocks hK hP hD hS d_M_drawB_85 (by simp only [bd_b, if_neg z_0, if_neg z_1, if_pos z_2, bd_bit, if_neg (Int32.not_lt.mpr r_71)]) (by rw [bd_w3, if_neg (by rw [z_2]; decide)])
    · have c_71 := r_71
      refine lv_iconst (v := 1) hx hb d_M_drawB_74 (by decide) ?_
      refine lv_aload_n hx hb d_M_drawB_75 rfl (lv_at hl 0 rfl) ?_
      refine va_get (D := D) (ci := 2) (v := .int pl) (C := "BuildDrawerModel") (T := TM) (N := 16) hx hb hw inM hown hK hP 0 rfl rfl 5 (by decide) (hw _ k_308) (fun _ h9 => h9) rfl d_M_drawB_76 ?_
      refine lv_ishl hx hb d_M_drawB_79 ?_
      refine lv_goto (tgt := 84) hx hb d_M_drawB_80 (by decide) ?_
      refine lv_ior hx hb d_M_drawB_84 ?_
      exact cx_iret hx hb hr hlocks hK hP hD hS d_M_drawB_85 (by simp only [bd_b, if_neg z_0, if_neg z_1, if_pos z_2, bd_bit, if_pos (Int32.not_le.mp r_71)]) (by rw [bd_w3, if_neg (by rw [z_2]; decide)])
  by_cases z_3 : so = 3
  · refine lv_tableIn (tgt := 86) (off := 85) hx hb d_M_drawB_1 (by rw [z_3]; decide) (by rw [z_3]; decide) (by rw [z_3]; rfl) (by decide) ?_
    refine lv_aload_n hx hb d_M_drawB_86 rfl (lv_at hl 0 rfl) ?_
    refine lv_bipush (v := 10) hx hb d_M_drawB_87 (by decide) ?_
    refine cx_ci (wr := []) (wN := [(h0, .inr (2, [.int cd, .long seed, .long (bd_w w), .int (nI cnt), .int vb, .int pl, .int vs, .ref aS, .ref aA, .ref aB, .ref aN, .ref aM, .ref aL, .int wa, .int fo, .int se]))]) (va_runV (As := [.int 10]) (rest := []) ⟨hx, hb, hml, hown, hw⟩ (c_M_chance l G D K s.heap.size h0 cd seed w cnt vb pl vs aS aA aB aN aM aL wa fo se 10 ⟨10, by omega, by omega, rfl⟩) (cwV 1 hw (cx_gV k_364 k_366 ks_M_chance k_3 k_367) rfl rfl rfl (by decide +kernel) ⟨Nat.le_of_ble_eq_true rfl, Nat.le_of_ble_eq_true rfl⟩) (cx_preV (q0 := 0) (ci := 2) hK hP hD hS hA hE rfl rfl [0] rfl rfl (by decide)) rfl rfl hl.1 rfl (lv_room (Nat.le_of_ble_eq_true rfl)) d_M_drawB_89 ⟨Nat.le_of_ble_eq_true rfl, Nat.le_of_ble_eq_true rfl⟩) hP hD hS hA [0] [] rfl rfl (by decide) (by decide) [0] rfl rfl (by decide) (fun H locs hP hD hS => ?_)
    exact cx_iret hx hb hr hlocks hK hP hD hS d_M_drawB_92 (by simp only [bd_b, if_neg z_0, if_neg z_1, if_neg z_2, if_pos z_3]) (by rw [bd_w3, if_neg (by rw [z_3]; decide)])
  by_cases z_4 : so = 4
  · refine lv_tableIn (tgt := 93) (off := 92) hx hb d_M_drawB_1 (by rw [z_4]; decide) (by rw [z_4]; decide) (by rw [z_4]; rfl) (by decide) ?_
    refine lv_aload_n hx hb d_M_drawB_93 rfl (lv_at hl 0 rfl) ?_
    refine lv_bipush (v := 12) hx hb d_M_drawB_94 (by decide) ?_
    refine cx_ci (wr := []) (wN := [(h0, .inr (2, [.int cd, .long seed, .long (bd_w w), .int (nI cnt), .int vb, .int pl, .int vs, .ref aS, .ref aA, .ref aB, .ref aN, .ref aM, .ref aL, .int wa, .int fo, .int se]))]) (va_runV (As := [.int 12]) (rest := []) ⟨hx, hb, hml, hown, hw⟩ (c_M_chance l G D K s.heap.size h0 cd seed w cnt vb pl vs aS aA aB aN aM aL wa fo se 12 ⟨12, by omega, by omega, rfl⟩) (cwV 1 hw (cx_gV k_364 k_366 ks_M_chance k_3 k_367) rfl rfl rfl (by decide +kernel) ⟨Nat.le_of_ble_eq_true rfl, Nat.le_of_ble_eq_true rfl⟩) (cx_preV (q0 := 0) (ci := 2) hK hP hD hS hA hE rfl rfl [0] rfl rfl (by decide)) rfl rfl hl.1 rfl (lv_room (Nat.le_of_ble_eq_true rfl)) d_M_drawB_96 ⟨Nat.le_of_ble_eq_true rfl, Nat.le_of_ble_eq_true rfl⟩) hP hD hS hA [0] [] rfl rfl (by decide) (by decide) [0] rfl rfl (by decide) (fun H locs hP hD hS => ?_)
    refine lv_istore_n (lv' := [(2, .int (bd_c w 12)), (0, .ref h0), (1, .int so)]) hx hb d_M_drawB_99 rfl hl (by decide) rfl (fun ls hl => ?_)
    refine lv_aload_n hx hb d_M_drawB_100 rfl (lv_at hl 1 rfl) ?_
    refine lv_iconst (v := 5) hx hb d_M_drawB_101 (by decide) ?_
    refine cx_ci (wr := []) (wN := [(h0, .inr (2, [.int cd, .long seed, .long (bd_w (bd_w w)), .int (nI cnt), .int vb, .int pl, .int vs, .ref aS, .ref aA, .ref aB, .ref aN, .ref aM, .ref aL, .int wa, .int fo, .int se]))]) (va_runV (As := [.int 5]) (rest := []) ⟨hx, hb, hml, hown, hw⟩ (c_M_chance l G D K H.size h0 cd seed (bd_w w) cnt vb pl vs aS aA aB aN aM aL wa fo se 5 ⟨5, by omega, by omega, rfl⟩) (cwV 1 hw (cx_gV k_364 k_366 ks_M_chance k_3 k_367) rfl rfl rfl (by decide +kernel) ⟨Nat.le_of_ble_eq_true rfl, Nat.le_of_ble_eq_true rfl⟩) (cx_preV (q0 := 0) (ci := 2) hK hP hD hS hA hE rfl rfl [0] rfl rfl (by decide)) rfl rfl hl.1 rfl (lv_room (Nat.le_of_ble_eq_true rfl)) d_M_drawB_102 ⟨Nat.le_of_ble_eq_true rfl, Nat.le_of_ble_eq_true rfl⟩) hP hD hS hA [0] [] rfl rfl (by decide) (by decide) [0] rfl rfl (by decide) (fun H locs hP hD hS => ?_)
    refine lv_if_ne (tgt := 115) hx hb d_M_drawB_105 (by decide) (fun r_105 => ?_) (fun r_105 => ?_)
    · have c_105 := r_105
      refine lv_iload_n hx hb d_M_drawB_115 rfl (lv_at hl 0 rfl) ?_
      exact cx_iret hx hb hr hlocks hK hP hD hS d_M_drawB_116 (by simp only [bd_b, if_neg z_0, if_neg z_1, if_neg z_2, if_neg z_3, if_pos z_4, bd_stp, if_neg r_105]) (by simp only [bd_w3, if_pos z_4])
    · have c_105 := r_105
      refine lv_iload_n hx hb d_M_drawB_108 rfl (lv_at hl 0 rfl) ?_
      refine lv_bipush (v := 100) hx hb d_M_drawB_109 (by decide) ?_
      refine lv_iadd hx hb d_M_drawB_111 ?_
      refine lv_goto (tgt := 116) hx hb d_M_drawB_112 (by decide) ?_
      exact cx_iret hx hb hr hlocks hK hP hD hS d_M_drawB_116 (by simp only [bd_b, if_neg z_0, if_neg z_1, if_neg z_2, if_neg z_3, if_pos z_4, bd_stp, if_pos r_105]) (by simp only [bd_w3, if_pos z_4])
  by_cases z_5 : so = 5
  · refine lv_tableIn (tgt := 117) (off := 116) hx hb d_M_drawB_1 (by rw [z_5]; decide) (by rw [z_5]; decide) (by rw [z_5]; rfl) (by decide) ?_
    refine lv_aload_n hx hb d_M_drawB_117 rfl (lv_at hl 0 rfl) ?_
    refine lv_iconst (v := 5) hx hb d_M_drawB_118 (by decide) ?_
    refine cx_ci (wr := []) (wN := [(h0, .inr (2, [.int cd, .long seed, .long (bd_w w), .int (nI cnt), .int vb, .int pl, .int vs, .ref aS, .ref aA, .ref aB, .ref aN, .ref aM, .ref aL, .int wa, .int fo, .int se]))]) (va_runV (As := [.int 5]) (rest := []) ⟨hx, hb, hml, hown, hw⟩ (c_M_chance l G D K s.heap.size h0 cd seed w cnt vb pl vs aS aA aB aN aM aL wa fo se 5 ⟨5, by omega, by omega, rfl⟩) (cwV 1 hw (cx_gV k_364 k_366 ks_M_chance k_3 k_367) rfl rfl rfl (by decide +kernel) ⟨Nat.le_of_ble_eq_true rfl, Nat.le_of_ble_eq_true rfl⟩) (cx_preV (q0 := 0) (ci := 2) hK hP hD hS hA hE rfl rfl [0] rfl rfl (by decide)) rfl rfl hl.1 rfl (lv_room (Nat.le_of_ble_eq_true rfl)) d_M_drawB_119 ⟨Nat.le_of_ble_eq_true rfl, Nat.le_of_ble_eq_true rfl⟩) hP hD hS hA [0] [] rfl rfl (by decide) (by decide) [0] rfl rfl (by decide) (fun H locs hP hD hS => ?_)
    exact cx_iret hx hb hr hlocks hK hP hD hS d_M_drawB_122 (by simp only [bd_b, if_neg z_0, if_neg z_1, if_neg z_2, if_neg z_3, if_neg z_4, if_pos z_5]) (by rw [bd_w3, if_neg z_4])
  by_cases z_6 : so = 6
  · refine lv_tableIn (tgt := 123) (off := 122) hx hb d_M_drawB_1 (by rw [z_6]; decide) (by rw [z_6]; decide) (by rw [z_6]; rfl) (by decide) ?_
    refine lv_aload_n hx hb d_M_drawB_123 rfl (lv_at hl 0 rfl) ?_
    refine lv_bipush (v := 7) hx hb d_M_drawB_124 (by decide) ?_
    refine cx_ci (wr := []) (wN := [(h0, .inr (2, [.int cd, .long seed, .long (bd_w w), .int (nI cnt), .int vb, .int pl, .int vs, .ref aS, .ref aA, .ref aB, .ref aN, .ref aM, .ref aL, .int wa, .int fo, .int se]))]) (va_runV (As := [.int 7]) (rest := []) ⟨hx, hb, hml, hown, hw⟩ (c_M_chance l G D K s.heap.size h0 cd seed w cnt vb pl vs aS aA aB aN aM aL wa fo se 7 ⟨7, by omega, by omega, rfl⟩) (cwV 1 hw (cx_gV k_364 k_366 ks_M_chance k_3 k_367) rfl rfl rfl (by decide +kernel) ⟨Nat.le_of_ble_eq_true rfl, Nat.le_of_ble_eq_true rfl⟩) (cx_preV (q0 := 0) (ci := 2) hK hP hD hS hA hE rfl rfl [0] rfl rfl (by decide)) rfl rfl hl.1 rfl (lv_room (Nat.le_of_ble_eq_true rfl)) d_M_drawB_126 ⟨Nat.le_of_ble_eq_true rfl, Nat.le_of_ble_eq_true rfl⟩) hP hD hS hA [0] [] rfl rfl (by decide) (by decide) [0] rfl rfl (by decide) (fun H locs hP hD hS => ?_)
    exact cx_iret hx hb hr hlocks hK hP hD hS d_M_drawB_129 (by simp only [bd_b, if_neg z_0, if_neg z_1, if_neg z_2, if_neg z_3, if_neg z_4, if_neg z_5, if_pos z_6]) (by rw [bd_w3, if_neg z_4])
  refine lv_tableOut (tgt := 130) hx hb d_M_drawB_1 (cx_out7 z_0 z_1 z_2 z_3 z_4 z_5 z_6) (by decide) ?_
  refine lv_aload_n hx hb d_M_drawB_130 rfl (lv_at hl 0 rfl) ?_
  refine lv_bipush (v := 6) hx hb d_M_drawB_131 (by decide) ?_
  refine cx_ci (wr := []) (wN := [(h0, .inr (2, [.int cd, .long seed, .long (bd_w w), .int (nI cnt), .int vb, .int pl, .int vs, .ref aS, .ref aA, .ref aB, .ref aN, .ref aM, .ref aL, .int wa, .int fo, .int se]))]) (va_runV (As := [.int 6]) (rest := []) ⟨hx, hb, hml, hown, hw⟩ (c_M_chance l G D K s.heap.size h0 cd seed w cnt vb pl vs aS aA aB aN aM aL wa fo se 6 ⟨6, by omega, by omega, rfl⟩) (cwV 1 hw (cx_gV k_364 k_366 ks_M_chance k_3 k_367) rfl rfl rfl (by decide +kernel) ⟨Nat.le_of_ble_eq_true rfl, Nat.le_of_ble_eq_true rfl⟩) (cx_preV (q0 := 0) (ci := 2) hK hP hD hS hA hE rfl rfl [0] rfl rfl (by decide)) rfl rfl hl.1 rfl (lv_room (Nat.le_of_ble_eq_true rfl)) d_M_drawB_133 ⟨Nat.le_of_ble_eq_true rfl, Nat.le_of_ble_eq_true rfl⟩) hP hD hS hA [0] [] rfl rfl (by decide) (by decide) [0] rfl rfl (by decide) (fun H locs hP hD hS => ?_)
  exact cx_iret hx hb hr hlocks hK hP hD hS d_M_drawB_136 (by simp only [bd_b, if_neg z_0, if_neg z_1, if_neg z_2, if_neg z_3, if_neg z_4, if_neg z_5, if_neg z_6]) (by rw [bd_w3, if_neg z_4])
set_option maxHeartbeats 4000000 in
set_option maxRecDepth 100000 in
theorem c_M_verdict (l : Launch) (G : cx_G) (D : va_G) (K : cx_KT) (sz : Nat) (h0 : Nat) (cd : Int32) (seed : Int64) (w : Int64) (cnt : Nat) (vb : Int32) (pl : Int32) (vs : Int32) (aS : Nat) (aA : Nat) (aB : Nat) (aN : Nat) (aM : Nat) (aL : Nat) (wa : Int32) (fo : Int32) (se : Int32) (b : Int32) (z : Int32) (hz : z = 0 ∨ z = 1) : Met l y_M_verdict w_M_verdict ({ frames := 0, cells := 0, slots := 0, locals := 0 }) (cx_Pc G D (cx_ty K) [(h0, .inr (2, [.int cd, .long seed, .long w, .int (nI cnt), .int vb, .int pl, .int vs, .ref aS, .ref aA, .ref aB, .ref aN, .ref aM, .ref aL, .int wa, .int fo, .int se]))] sz [.ref h0, .int b, .int z]) (cx_Qv D (cx_ty K) [(h0, .inr (2, [.int 0, .long seed, .long w, .int (nI cnt), .int (b &&& 255), .int pl, .int z, .ref aS, .ref aA, .ref aB, .ref aN, .ref aM, .ref aL, .int wa, .int fo, .int se]))] (va_A [(h0, .inr (2, [.int cd, .long seed, .long w, .int (nI cnt), .int vb, .int pl, .int vs, .ref aS, .ref aA, .ref aB, .ref aN, .ref aM, .ref aL, .int wa, .int fo, .int se]))] sz)) 0 0 (va_A [(h0, .inr (2, [.int cd, .long seed, .long w, .int (nI cnt), .int vb, .int pl, .int vs, .ref aS, .ref aA, .ref aB, .ref aN, .ref aM, .ref aL, .int wa, .int fo, .int se]))] sz) := by
  refine Met.ofW (cc := prog_4_method_10_code) (maxL := 3) (ret := none) (by decide) rfl ?_
  intro p e s m args below meth c s₁ B hml hv
  obtain ⟨rfl, hsz, hP, hK, hD0, hE⟩ := hv
  have hx := B.exec
  have hb := B.bytes
  have hr := B.returns
  have hts := atoms_spec (ws := w_M_verdict) B.pre
  have hw : ∀ w ∈ cw, w.before _ s = true := fun w h => hts w (List.mem_cons_of_mem _ h)
  have hown : s.vm.findClass "BuildDrawerModel" = some m.cls := findClass_of_methodNamed B.named
  have hlocks := B.notSynchronized
  subst hsz
  have hD := hD0.self (sz := s.heap.size)
  generalize hAe : va_A [(h0, .inr (2, [.int cd, .long seed, .long w, .int (nI cnt), .int vb, .int pl, .int vs, .ref aS, .ref aA, .ref aB, .ref aN, .ref aM, .ref aL, .int wa, .int fo, .int se]))] s.heap.size = A at hD hE ⊢
  have hA : ∀ q : Nat, s.heap.size ≤ q → A q := fun q h => by rw [← hAe]; exact Or.inr h
  have hS : va_S A s.heap s.heap [] := va_S.rf
  have hl := lv_entry ([.ref h0, .int b, .int z]) (n := 3) (Nat.le_of_ble_eq_true rfl)
  rw [lg_entry_eq]
  generalize (lg_sl ([.ref h0, .int b, .int z]) ++ List.replicate (3 - (lg_sl ([.ref h0, .int b, .int z])).length) Slot.unset).toArray = ls at hl ⊢
  have hl : lv_has ls 3 [(0, .ref h0), (1, .int b), (2, .int z)] := hl
  refine lv_aload_n hx hb d_M_verdict_0 rfl (lv_at hl 0 rfl) ?_
  refine lv_iconst (v := 0) hx hb d_M_verdict_1 (by decide) ?_
  refine va_put (D := D) (ci := 2) (v := .int 0) (ty := .int) (C := "BuildDrawerModel") (T := TM) (N := 16) hx hb hw inM tyM tyM_ok nmM hown hK hP hD hS 0 rfl rfl 0 (by decide) (hw _ k_303) (fun _ h9 => h9) rfl (by decide +kernel) rfl rfl (Nat.le_of_ble_eq_true rfl) d_M_verdict_2 (fun H locs hP hD hS => ?_)
  have hP : va_P D vwCl [(h0, .inr (2, [.int 0, .long seed, .long w, .int (nI cnt), .int vb, .int pl, .int vs, .ref aS, .ref aA, .ref aB, .ref aN, .ref aM, .ref aL, .int wa, .int fo, .int se]))] H := hP
  have hD : va_D A [(h0, .inr (2, [.int 0, .long seed, .long w, .int (nI cnt), .int vb, .int pl, .int vs, .ref aS, .ref aA, .ref aB, .ref aN, .ref aM, .ref aL, .int wa, .int fo, .int se]))] := hD
  refine lv_aload_n hx hb d_M_verdict_5 rfl (lv_at hl 0 rfl) ?_
  refine lv_iload_n hx hb d_M_verdict_6 rfl (lv_at hl 1 rfl) ?_
  refine lv_sipush (v := 255) hx hb d_M_verdict_7 (by decide) ?_
  refine lv_iand hx hb d_M_verdict_10 ?_
  refine va_put (D := D) (ci := 2) (v := .int (b &&& 255)) (ty := .int) (C := "BuildDrawerModel") (T := TM) (N := 16) hx hb hw inM tyM tyM_ok nmM hown hK hP hD hS 0 rfl rfl 4 (by decide) (hw _ k_307) (fun _ h9 => h9) rfl (by decide +kernel) rfl rfl (Nat.le_of_ble_eq_true rfl) d_M_verdict_11 (fun H locs hP hD hS => ?_)
  have hP : va_P D vwCl [(h0, .inr (2, [.int 0, .long seed, .long w, .int (nI cnt), .int (b &&& 255), .int pl, .int vs, .ref aS, .ref aA, .ref aB, .ref aN, .ref aM, .ref aL, .int wa, .int fo, .int se]))] H := hP
  have hD : va_D A [(h0, .inr (2, [.int 0, .long seed, .long w, .int (nI cnt), .int (b &&& 255), .int pl, .int vs, .ref aS, .ref aA, .ref aB, .ref aN, .ref aM, .ref aL, .int wa, .int fo, .int se]))] := hD
  refine lv_aload_n hx hb d_M_verdict_14 rfl (lv_at hl 0 rfl) ?_
  refine lv_iload_n hx hb d_M_verdict_15 rfl (lv_at hl 2 rfl) ?_
  refine va_put (D := D) (ci := 2) (v := .int z) (ty := .boolean) (C := "BuildDrawerModel") (T := TM) (N := 16) hx hb hw inM tyM tyM_ok nmM hown hK hP hD hS 0 rfl rfl 6 (by decide) (hw _ k_309) (fun _ h9 => h9) rfl (by decide +kernel) (bd_01 hz).1 (bd_01 hz).2 (Nat.le_of_ble_eq_true rfl) d_M_verdict_16 (fun H locs hP hD hS => ?_)
  have hP : va_P D vwCl [(h0, .inr (2, [.int 0, .long seed, .long w, .int (nI cnt), .int (b &&& 255), .int pl, .int z, .ref aS, .ref aA, .ref aB, .ref aN, .ref aM, .ref aL, .int wa, .int fo, .int se]))] H := hP
  have hD : va_D A [(h0, .inr (2, [.int 0, .long seed, .long w, .int (nI cnt), .int (b &&& 255), .int pl, .int z, .ref aS, .ref aA, .ref aB, .ref aN, .ref aM, .ref aL, .int wa, .int fo, .int se]))] := hD
  exact cx_vret hx hb hr hlocks hK hP hD hS d_M_verdict_19 (rfl)
set_option maxHeartbeats 4000000 in
set_option maxRecDepth 100000 in
theorem c_M_holdsA (l : Launch) (G : cx_G) (D : va_G) (K : cx_KT) (sz : Nat) (h0 : Nat) (cd : Int32) (seed : Int64) (w : Int64) (cnt : Nat) (vb : Int32) (pl : Int32) (vs : Int32) (aS : Nat) (aA : Nat) (aB : Nat) (aN : Nat) (aM : Nat) (aL : Nat) (wa : Int32) (fo : Int32) (se : Int32) (fL : Nat → Int32) (fM : Nat → Int32) (hcnt : cnt ≤ 62) : Met l y_M_holds w_M_holds ({ frames := 0, cells := 0, slots := 0, locals := 0 }) (cx_Pc G D (cx_ty K) [(h0, .inr (2, [.int cd, .long seed, .long w, .int (nI cnt), .int vb, .int pl, .int vs, .ref aS, .ref aA, .ref aB, .ref aN, .ref aM, .ref aL, .int wa, .int fo, .int se])), (aL, .inl (K.2.1, 62, .inl fL)), (aM, .inl (K.1, 124, .inl fM))] sz [.ref h0, .int (-1)]) (cx_Qi (bd_ho vb vs (bd_ml fL fM cnt)) D (cx_ty K) [(h0, .inr (2, [.int cd, .long seed, .long w, .int (nI cnt), .int vb, .int pl, .int vs, .ref aS, .ref aA, .ref aB, .ref aN, .ref aM, .ref aL, .int wa, .int fo, .int se])), (aL, .inl (K.2.1, 62, .inl fL)), (aM, .inl (K.1, 124, .inl fM))] (va_A [(h0, .inr (2, [.int cd, .long seed, .long w, .int (nI cnt), .int vb, .int pl, .int vs, .ref aS, .ref aA, .ref aB, .ref aN, .ref aM, .ref aL, .int wa, .int fo, .int se])), (aL, .inl (K.2.1, 62, .inl fL)), (aM, .inl (K.1, 124, .inl fM))] sz)) 0 0 (va_A [(h0, .inr (2, [.int cd, .long seed, .long w, .int (nI cnt), .int vb, .int pl, .int vs, .ref aS, .ref aA, .ref aB, .ref aN, .ref aM, .ref aL, .int wa, .int fo, .int se])), (aL, .inl (K.2.1, 62, .inl fL)), (aM, .inl (K.1, 124, .inl fM))] sz) := by
  refine Met.ofW (cc := prog_4_method_11_code) (maxL := 4) (ret := (some .boolean)) (by decide) rfl ?_
  intro p e s m args below meth c s₁ B hml hv
  obtain ⟨rfl, hsz, hP, hK, hD0, hE⟩ := hv
  have hx := B.exec
  have hb := B.bytes
  have hr := B.returns
  have hts := atoms_spec (ws := w_M_holds) B.pre
  have hw : ∀ w ∈ cw, w.before _ s = true := fun w h => hts w (List.mem_cons_of_mem _ h)
  have hown : s.vm.findClass "BuildDrawerModel" = some m.cls := findClass_of_methodNamed B.named
  have hlocks := B.notSynchronized
  subst hsz
  have hD := hD0.self (sz := s.heap.size)
  generalize hAe : va_A [(h0, .inr (2, [.int cd, .long seed, .long w, .int (nI cnt), .int vb, .int pl, .int vs, .ref aS, .ref aA, .ref aB, .ref aN, .ref aM, .ref aL, .int wa, .int fo, .int se])), (aL, .inl (K.2.1, 62, .inl fL)), (aM, .inl (K.1, 124, .inl fM))] s.heap.size = A at hD hE ⊢
  have hA : ∀ q : Nat, s.heap.size ≤ q → A q := fun q h => by rw [← hAe]; exact Or.inr h
  have hS : va_S A s.heap s.heap [] := va_S.rf
  have hl := lv_entry ([.ref h0, .int (-1)]) (n := 4) (Nat.le_of_ble_eq_true rfl)
  rw [lg_entry_eq]
  generalize (lg_sl ([.ref h0, .int (-1)]) ++ List.replicate (4 - (lg_sl ([.ref h0, .int (-1)])).length) Slot.unset).toArray = ls at hl ⊢
  have hl : lv_has ls 4 [(0, .ref h0), (1, .int (-1))] := hl
  refine lv_iconst (v := 0) hx hb d_M_holds_0 (by decide) ?_
  refine lv_istore_n (lv' := [(2, .int 0), (0, .ref h0), (1, .int (-1))]) hx hb d_M_holds_1 rfl hl (by decide) rfl (fun ls hl => ?_)
  refine lv_iconst (v := 0) hx hb d_M_holds_2 (by decide) ?_
  refine lv_istore_n (lv' := [(3, .int 0), (2, .int 0), (0, .ref h0), (1, .int (-1))]) hx hb d_M_holds_3 rfl hl (by decide) rfl (fun ls hl => ?_)
  refine cx_loop (pc := 4) (st := []) (fun (j : Nat) H locs ls => (j ≤ cnt) ∧ va_P D vwCl [(h0, .inr (2, [.int cd, .long seed, .long w, .int (nI cnt), .int vb, .int pl, .int vs, .ref aS, .ref aA, .ref aB, .ref aN, .ref aM, .ref aL, .int wa, .int fo, .int se])), (aL, .inl (K.2.1, 62, .inl fL)), (aM, .inl (K.1, 124, .inl fM))] H ∧ va_D A [(h0, .inr (2, [.int cd, .long seed, .long w, .int (nI cnt), .int vb, .int pl, .int vs, .ref aS, .ref aA, .ref aB, .ref aN, .ref aM, .ref aL, .int wa, .int fo, .int se])), (aL, .inl (K.2.1, 62, .inl fL)), (aM, .inl (K.1, 124, .inl fM))] ∧ va_S A s.heap H locs ∧ lv_has ls 4 [(3, .int (nI j)), (2, .int (bd_ml fL fM j)), (1, .int (-1)), (0, .ref h0)]) (fun (j : Nat) => cnt - j) (fun z H locs ls hI ih_4 => ?_) 0 ⟨Nat.zero_le _, hP, hD, hS, lv_sub hl [0, 1, 3, 2] rfl⟩
  obtain ⟨j, rfl⟩ : ∃ y, y = z := ⟨_, rfl⟩
  obtain ⟨hj, hP, hD, hS, hl⟩ := hI
  have hP : va_P D vwCl [(h0, .inr (2, [.int cd, .long seed, .long w, .int (nI cnt), .int vb, .int pl, .int vs, .ref aS, .ref aA, .ref aB, .ref aN, .ref aM, .ref aL, .int wa, .int fo, .int se])), (aL, .inl (K.2.1, 62, .inl fL)), (aM, .inl (K.1, 124, .inl fM))] H := hP
  have hD : va_D A [(h0, .inr (2, [.int cd, .long seed, .long w, .int (nI cnt), .int vb, .int pl, .int vs, .ref aS, .ref aA, .ref aB, .ref aN, .ref aM, .ref aL, .int wa, .int fo, .int se])), (aL, .inl (K.2.1, 62, .inl fL)), (aM, .inl (K.1, 124, .inl fM))] := hD
  have hl : lv_has ls 4 [(3, .int (nI j)), (2, .int (bd_ml fL fM j)), (1, .int (-1)), (0, .ref h0)] := hl
  refine lv_iload_n hx hb d_M_holds_4 rfl (lv_at hl 0 rfl) ?_
  refine lv_aload_n hx hb d_M_holds_5 rfl (lv_at hl 3 rfl) ?_
  refine va_get (D := D) (ci := 2) (v := .int (nI cnt)) (C := "BuildDrawerModel") (T := TM) (N := 16) hx hb hw inM hown hK hP 0 rfl rfl 3 (by decide) (hw _ k_306) (fun _ h9 => h9) rfl d_M_holds_6 ?_
  refine lv_icmp_ge (tgt := 45) hx hb d_M_holds_9 (by decide) (fun r_9 => ?_) (fun r_9 => ?_)
  · have c_9 := (nI_leI (a := cnt) (b := j) (by omega) (by omega)).mp r_9
    refine lv_aload_n hx hb d_M_holds_45 rfl (lv_at hl 3 rfl) ?_
    refine va_get (D := D) (ci := 2) (v := .int vb) (C := "BuildDrawerModel") (T := TM) (N := 16) hx hb hw inM hown hK hP 0 rfl rfl 4 (by decide) (hw _ k_307) (fun _ h9 => h9) rfl d_M_holds_46 ?_
    refine lv_iload_n hx hb d_M_holds_49 rfl (lv_at hl 1 rfl) ?_
    refine lv_iconst (v := (-1)) hx hb d_M_holds_50 (by decide) ?_
    refine lv_ixor hx hb d_M_holds_51 ?_
    refine lv_iand hx hb d_M_holds_52 ?_
    refine lv_if_ne (tgt := 60) hx hb d_M_holds_53 (by decide) (fun r_53 => ?_) (fun r_53 => ?_)
    · have c_53 := r_53
      refine lv_iconst (v := 0) hx hb d_M_holds_60 (by decide) ?_
      refine lv_aload_n hx hb d_M_holds_61 rfl (lv_at hl 3 rfl) ?_
      refine va_get (D := D) (ci := 2) (v := .int vs) (C := "BuildDrawerModel") (T := TM) (N := 16) hx hb hw inM hown hK hP 0 rfl rfl 6 (by decide) (hw _ k_309) (fun _ h9 => h9) rfl d_M_holds_62 ?_
      refine lv_icmp_ne (tgt := 72) hx hb d_M_holds_65 (by decide) (fun r_65 => ?_) (fun r_65 => ?_)
      · have c_65 := r_65
        refine lv_iconst (v := 0) hx hb d_M_holds_72 (by decide) ?_
        exact cx_zret hx hb hr hlocks hK hP hD hS d_M_holds_73 (rfl) (by rw [← show j = cnt by omega]; simp only [bd_ho, if_neg r_53, if_neg r_65]) (rfl)
      · have c_65 := r_65
        refine lv_iconst (v := 1) hx hb d_M_holds_68 (by decide) ?_
        refine lv_goto (tgt := 73) hx hb d_M_holds_69 (by decide) ?_
        exact cx_zret hx hb hr hlocks hK hP hD hS d_M_holds_73 (rfl) (by rw [← show j = cnt by omega]; simp only [bd_ho, if_neg r_53, if_pos r_65]) (rfl)
    · have c_53 := r_53
      refine lv_iconst (v := 1) hx hb d_M_holds_56 (by decide) ?_
      refine lv_goto (tgt := 61) hx hb d_M_holds_57 (by decide) ?_
      refine lv_aload_n hx hb d_M_holds_61 rfl (lv_at hl 3 rfl) ?_
      refine va_get (D := D) (ci := 2) (v := .int vs) (C := "BuildDrawerModel") (T := TM) (N := 16) hx hb hw inM hown hK hP 0 rfl rfl 6 (by decide) (hw _ k_309) (fun _ h9 => h9) rfl d_M_holds_62 ?_
      refine lv_icmp_ne (tgt := 72) hx hb d_M_holds_65 (by decide) (fun r_65 => ?_) (fun r_65 => ?_)
      · have c_65 := r_65
        refine lv_iconst (v := 0) hx hb d_M_holds_72 (by decide) ?_
        exact cx_zret hx hb hr hlocks hK hP hD hS d_M_holds_73 (rfl) (by rw [← show j = cnt by omega]; simp only [bd_ho, if_pos r_53, if_neg r_65]) (rfl)
      · have c_65 := r_65
        refine lv_iconst (v := 1) hx hb d_M_holds_68 (by decide) ?_
        refine lv_goto (tgt := 73) hx hb d_M_holds_69 (by decide) ?_
        exact cx_zret hx hb hr hlocks hK hP hD hS d_M_holds_73 (rfl) (by rw [← show j = cnt by omega]; simp only [bd_ho, if_pos r_53, if_pos r_65]) (rfl)
  · have c_9 := mt (nI_leI (a := cnt) (b := j) (by omega) (by omega)).mpr r_9
    refine lv_iload_n hx hb d_M_holds_12 rfl (lv_at hl 1 rfl) ?_
    refine lv_aload_n hx hb d_M_holds_13 rfl (lv_at hl 3 rfl) ?_
    refine va_get (D := D) (ci := 2) (v := .ref aL) (C := "BuildDrawerModel") (T := TM) (N := 16) hx hb hw inM hown hK hP 0 rfl rfl 12 (by decide) (hw _ k_315) (fun _ h9 => h9) rfl d_M_holds_14 ?_
    refine lv_iload_n hx hb d_M_holds_17 rfl (lv_at hl 0 rfl) ?_
    refine va_zald hx hb hK hP 1 1 rfl rfl (vp_in_nI (n := j) (by omega) (by omega)) d_M_holds_18 ?_
    refine cx_ti (y := fL j) (by rw [nI_clamp (by omega)]) ?_
    refine lv_if_eq (tgt := 36) hx hb d_M_holds_19 (by decide) (fun r_19 => ?_) (fun r_19 => ?_)
    · have c_19 := r_19
      have e_i : bd_ml fL fM (j + 1) = bd_ml fL fM j ||| 0 := by rw [bd_ml, if_pos r_19, bd_or0]
      refine lv_iconst (v := 0) hx hb d_M_holds_36 (by decide) ?_
      refine lv_ior hx hb d_M_holds_37 ?_
      refine lv_istore_n (lv' := [(2, .int ((bd_ml fL fM j) ||| 0)), (3, .int (nI j)), (1, .int (-1)), (0, .ref h0)]) hx hb d_M_holds_38 rfl hl (by decide) rfl (fun ls hl => ?_)
      rw [← e_i] at hl
      refine lv_iinc (v := nI (j + 1)) (lv' := [(3, .int (nI (j + 1))), (2, .int (bd_ml fL fM (j + 1))), (1, .int (-1)), (0, .ref h0)]) hx hb d_M_holds_39 hl (k := 1) rfl (by exact cx_inc j) (by decide) rfl (fun ls hl => ?_)
      refine lv_goto (tgt := 4) hx hb d_M_holds_42 (by decide) ?_
      exact ih_4 (j + 1) _ _ _ ⟨(by omega), hP, hD, hS, lv_sub hl [0, 1, 2, 3] rfl⟩ (by omega)
    · have c_19 := r_19
      refine lv_iload_n hx hb d_M_holds_22 rfl (lv_at hl 0 rfl) ?_
      refine lv_iload_n hx hb d_M_holds_23 rfl (lv_at hl 2 rfl) ?_
      refine lv_icmp_eq (tgt := 36) hx hb d_M_holds_24 (by decide) (fun r_24 => ?_) (fun r_24 => ?_)
      · have c_24 := r_24
        exact absurd r_24 (bd_nm1 (by omega))
      · have c_24 := r_24
        have e_i : bd_ml fL fM (j + 1) = bd_ml fL fM j ||| fM j := by rw [bd_ml, if_neg r_19]
        refine lv_aload_n hx hb d_M_holds_27 rfl (lv_at hl 3 rfl) ?_
        refine va_get (D := D) (ci := 2) (v := .ref aM) (C := "BuildDrawerModel") (T := TM) (N := 16) hx hb hw inM hown hK hP 0 rfl rfl 11 (by decide) (hw _ k_314) (fun _ h9 => h9) rfl d_M_holds_28 ?_
        refine lv_iload_n hx hb d_M_holds_31 rfl (lv_at hl 0 rfl) ?_
        refine va_iald hx hb hK hP 2 0 rfl rfl (vp_in_nI (n := j) (by omega) (by omega)) d_M_holds_32 ?_
        refine cx_ti (y := fM j) (by rw [nI_clamp (by omega)]) ?_
        refine lv_goto (tgt := 37) hx hb d_M_holds_33 (by decide) ?_
        refine lv_ior hx hb d_M_holds_37 ?_
        refine lv_istore_n (lv' := [(2, .int ((bd_ml fL fM j) ||| (fM j))), (3, .int (nI j)), (1, .int (-1)), (0, .ref h0)]) hx hb d_M_holds_38 rfl hl (by decide) rfl (fun ls hl => ?_)
        rw [← e_i] at hl
        refine lv_iinc (v := nI (j + 1)) (lv' := [(3, .int (nI (j + 1))), (2, .int (bd_ml fL fM (j + 1))), (1, .int (-1)), (0, .ref h0)]) hx hb d_M_holds_39 hl (k := 1) rfl (by exact cx_inc j) (by decide) rfl (fun ls hl => ?_)
        refine lv_goto (tgt := 4) hx hb d_M_holds_42 (by decide) ?_
        exact ih_4 (j + 1) _ _ _ ⟨(by omega), hP, hD, hS, lv_sub hl [0, 1, 2, 3] rfl⟩ (by omega)
set_option maxHeartbeats 4000000 in
set_option maxRecDepth 100000 in
theorem c_M_holdsK (l : Launch) (G : cx_G) (D : va_G) (K : cx_KT) (sz : Nat) (h0 : Nat) (cd : Int32) (seed : Int64) (w : Int64) (cnt : Nat) (vb : Int32) (pl : Int32) (vs : Int32) (aS : Nat) (aA : Nat) (aB : Nat) (aN : Nat) (aM : Nat) (aL : Nat) (wa : Int32) (fo : Int32) (se : Int32) (fL : Nat → Int32) (fM : Nat → Int32) (k : Nat) (hcnt : cnt ≤ 62) (hk : k < 62) : Met l y_M_holds w_M_holds ({ frames := 0, cells := 0, slots := 0, locals := 0 }) (cx_Pc G D (cx_ty K) [(h0, .inr (2, [.int cd, .long seed, .long w, .int (nI cnt), .int vb, .int pl, .int vs, .ref aS, .ref aA, .ref aB, .ref aN, .ref aM, .ref aL, .int wa, .int fo, .int se])), (aL, .inl (K.2.1, 62, .inl fL)), (aM, .inl (K.1, 124, .inl fM))] sz [.ref h0, .int (nI k)]) (cx_Qi (bd_ho vb vs (bd_wo fL fM k cnt)) D (cx_ty K) [(h0, .inr (2, [.int cd, .long seed, .long w, .int (nI cnt), .int vb, .int pl, .int vs, .ref aS, .ref aA, .ref aB, .ref aN, .ref aM, .ref aL, .int wa, .int fo, .int se])), (aL, .inl (K.2.1, 62, .inl fL)), (aM, .inl (K.1, 124, .inl fM))] (va_A [(h0, .inr (2, [.int cd, .long seed, .long w, .int (nI cnt), .int vb, .int pl, .int vs, .ref aS, .ref aA, .ref aB, .ref aN, .ref aM, .ref aL, .int wa, .int fo, .int se])), (aL, .inl (K.2.1, 62, .inl fL)), (aM, .inl (K.1, 124, .inl fM))] sz)) 0 0 (va_A [(h0, .inr (2, [.int cd, .long seed, .long w, .int (nI cnt), .int vb, .int pl, .int vs, .ref aS, .ref aA, .ref aB, .ref aN, .ref aM, .ref aL, .int wa, .int fo, .int se])), (aL, .inl (K.2.1, 62, .inl fL)), (aM, .inl (K.1, 124, .inl fM))] sz) := by
  refine Met.ofW (cc := prog_4_method_11_code) (maxL := 4) (ret := (some .boolean)) (by decide) rfl ?_
  intro p e s m args below meth c s₁ B hml hv
  obtain ⟨rfl, hsz, hP, hK, hD0, hE⟩ := hv
  have hx := B.exec
  have hb := B.bytes
  have hr := B.returns
  have hts := atoms_spec (ws := w_M_holds) B.pre
  have hw : ∀ w ∈ cw, w.before _ s = true := fun w h => hts w (List.mem_cons_of_mem _ h)
  have hown : s.vm.findClass "BuildDrawerModel" = some m.cls := findClass_of_methodNamed B.named
  have hlocks := B.notSynchronized
  subst hsz
  have hD := hD0.self (sz := s.heap.size)
  generalize hAe : va_A [(h0, .inr (2, [.int cd, .long seed, .long w, .int (nI cnt), .int vb, .int pl, .int vs, .ref aS, .ref aA, .ref aB, .ref aN, .ref aM, .ref aL, .int wa, .int fo, .int se])), (aL, .inl (K.2.1, 62, .inl fL)), (aM, .inl (K.1, 124, .inl fM))] s.heap.size = A at hD hE ⊢
  have hA : ∀ q : Nat, s.heap.size ≤ q → A q := fun q h => by rw [← hAe]; exact Or.inr h
  have hS : va_S A s.heap s.heap [] := va_S.rf
  have hl := lv_entry ([.ref h0, .int (nI k)]) (n := 4) (Nat.le_of_ble_eq_true rfl)
  rw [lg_entry_eq]
  generalize (lg_sl ([.ref h0, .int (nI k)]) ++ List.replicate (4 - (lg_sl ([.ref h0, .int (nI k)])).length) Slot.unset).toArray = ls at hl ⊢
  have hl : lv_has ls 4 [(0, .ref h0), (1, .int (nI k))] := hl
  refine lv_iconst (v := 0) hx hb d_M_holds_0 (by decide) ?_
  refine lv_istore_n (lv' := [(2, .int 0), (0, .ref h0), (1, .int (nI k))]) hx hb d_M_holds_1 rfl hl (by decide) rfl (fun ls hl => ?_)
  refine lv_iconst (v := 0) hx hb d_M_holds_2 (by decide) ?_
  refine lv_istore_n (lv' := [(3, .int 0), (2, .int 0), (0, .ref h0), (1, .int (nI k))]) hx hb d_M_holds_3 rfl hl (by decide) rfl (fun ls hl => ?_)
  refine cx_loop (pc := 4) (st := []) (fun (j : Nat) H locs ls => (j ≤ cnt) ∧ va_P D vwCl [(h0, .inr (2, [.int cd, .long seed, .long w, .int (nI cnt), .int vb, .int pl, .int vs, .ref aS, .ref aA, .ref aB, .ref aN, .ref aM, .ref aL, .int wa, .int fo, .int se])), (aL, .inl (K.2.1, 62, .inl fL)), (aM, .inl (K.1, 124, .inl fM))] H ∧ va_D A [(h0, .inr (2, [.int cd, .long seed, .long w, .int (nI cnt), .int vb, .int pl, .int vs, .ref aS, .ref aA, .ref aB, .ref aN, .ref aM, .ref aL, .int wa, .int fo, .int se])), (aL, .inl (K.2.1, 62, .inl fL)), (aM, .inl (K.1, 124, .inl fM))] ∧ va_S A s.heap H locs ∧ lv_has ls 4 [(3, .int (nI j)), (2, .int (bd_wo fL fM k j)), (1, .int (nI k)), (0, .ref h0)]) (fun (j : Nat) => cnt - j) (fun z H locs ls hI ih_4 => ?_) 0 ⟨Nat.zero_le _, hP, hD, hS, lv_sub hl [0, 1, 3, 2] rfl⟩
  obtain ⟨j, rfl⟩ : ∃ y, y = z := ⟨_, rfl⟩
  obtain ⟨hj, hP, hD, hS, hl⟩ := hI
  have hP : va_P D vwCl [(h0, .inr (2, [.int cd, .long seed, .long w, .int (nI cnt), .int vb, .int pl, .int vs, .ref aS, .ref aA, .ref aB, .ref aN, .ref aM, .ref aL, .int wa, .int fo, .int se])), (aL, .inl (K.2.1, 62, .inl fL)), (aM, .inl (K.1, 124, .inl fM))] H := hP
  have hD : va_D A [(h0, .inr (2, [.int cd, .long seed, .long w, .int (nI cnt), .int vb, .int pl, .int vs, .ref aS, .ref aA, .ref aB, .ref aN, .ref aM, .ref aL, .int wa, .int fo, .int se])), (aL, .inl (K.2.1, 62, .inl fL)), (aM, .inl (K.1, 124, .inl fM))] := hD
  have hl : lv_has ls 4 [(3, .int (nI j)), (2, .int (bd_wo fL fM k j)), (1, .int (nI k)), (0, .ref h0)] := hl
  refine lv_iload_n hx hb d_M_holds_4 rfl (lv_at hl 0 rfl) ?_
  refine lv_aload_n hx hb d_M_holds_5 rfl (lv_at hl 3 rfl) ?_
  refine va_get (D := D) (ci := 2) (v := .int (nI cnt)) (C := "BuildDrawerModel") (T := TM) (N := 16) hx hb hw inM hown hK hP 0 rfl rfl 3 (by decide) (hw _ k_306) (fun _ h9 => h9) rfl d_M_holds_6 ?_
  refine lv_icmp_ge (tgt := 45) hx hb d_M_holds_9 (by decide) (fun r_9 => ?_) (fun r_9 => ?_)
  · have c_9 := (nI_leI (a := cnt) (b := j) (by omega) (by omega)).mp r_9
    refine lv_aload_n hx hb d_M_holds_45 rfl (lv_at hl 3 rfl) ?_
    refine va_get (D := D) (ci := 2) (v := .int vb) (C := "BuildDrawerModel") (T := TM) (N := 16) hx hb hw inM hown hK hP 0 rfl rfl 4 (by decide) (hw _ k_307) (fun _ h9 => h9) rfl d_M_holds_46 ?_
    refine lv_iload_n hx hb d_M_holds_49 rfl (lv_at hl 1 rfl) ?_
    refine lv_iconst (v := (-1)) hx hb d_M_holds_50 (by decide) ?_
    refine lv_ixor hx hb d_M_holds_51 ?_
    refine lv_iand hx hb d_M_holds_52 ?_
    refine lv_if_ne (tgt := 60) hx hb d_M_holds_53 (by decide) (fun r_53 => ?_) (fun r_53 => ?_)
    · have c_53 := r_53
      refine lv_iconst (v := 0) hx hb d_M_holds_60 (by decide) ?_
      refine lv_aload_n hx hb d_M_holds_61 rfl (lv_at hl 3 rfl) ?_
      refine va_get (D := D) (ci := 2) (v := .int vs) (C := "BuildDrawerModel") (T := TM) (N := 16) hx hb hw inM hown hK hP 0 rfl rfl 6 (by decide) (hw _ k_309) (fun _ h9 => h9) rfl d_M_holds_62 ?_
      refine lv_icmp_ne (tgt := 72) hx hb d_M_holds_65 (by decide) (fun r_65 => ?_) (fun r_65 => ?_)
      · have c_65 := r_65
        refine lv_iconst (v := 0) hx hb d_M_holds_72 (by decide) ?_
        exact cx_zret hx hb hr hlocks hK hP hD hS d_M_holds_73 (rfl) (by rw [← show j = cnt by omega]; simp only [bd_ho, if_neg r_53, if_neg r_65]) (rfl)
      · have c_65 := r_65
        refine lv_iconst (v := 1) hx hb d_M_holds_68 (by decide) ?_
        refine lv_goto (tgt := 73) hx hb d_M_holds_69 (by decide) ?_
        exact cx_zret hx hb hr hlocks hK hP hD hS d_M_holds_73 (rfl) (by rw [← show j = cnt by omega]; simp only [bd_ho, if_neg r_53, if_pos r_65]) (rfl)
    · have c_53 := r_53
      refine lv_iconst (v := 1) hx hb d_M_holds_56 (by decide) ?_
      refine lv_goto (tgt := 61) hx hb d_M_holds_57 (by decide) ?_
      refine lv_aload_n hx hb d_M_holds_61 rfl (lv_at hl 3 rfl) ?_
      refine va_get (D := D) (ci := 2) (v := .int vs) (C := "BuildDrawerModel") (T := TM) (N := 16) hx hb hw inM hown hK hP 0 rfl rfl 6 (by decide) (hw _ k_309) (fun _ h9 => h9) rfl d_M_holds_62 ?_
      refine lv_icmp_ne (tgt := 72) hx hb d_M_holds_65 (by decide) (fun r_65 => ?_) (fun r_65 => ?_)
      · have c_65 := r_65
        refine lv_iconst (v := 0) hx hb d_M_holds_72 (by decide) ?_
        exact cx_zret hx hb hr hlocks hK hP hD hS d_M_holds_73 (rfl) (by rw [← show j = cnt by omega]; simp only [bd_ho, if_pos r_53, if_neg r_65]) (rfl)
      · have c_65 := r_65
        refine lv_iconst (v := 1) hx hb d_M_holds_68 (by decide) ?_
        refine lv_goto (tgt := 73) hx hb d_M_holds_69 (by decide) ?_
        exact cx_zret hx hb hr hlocks hK hP hD hS d_M_holds_73 (rfl) (by rw [← show j = cnt by omega]; simp only [bd_ho, if_pos r_53, if_pos r_65]) (rfl)
  · have c_9 := mt (nI_leI (a := cnt) (b := j) (by omega) (by omega)).mpr r_9
    refine lv_iload_n hx hb d_M_holds_12 rfl (lv_at hl 1 rfl) ?_
    refine lv_aload_n hx hb d_M_holds_13 rfl (lv_at hl 3 rfl) ?_
    refine va_get (D := D) (ci := 2) (v := .ref aL) (C := "BuildDrawerModel") (T := TM) (N := 16) hx hb hw inM hown hK hP 0 rfl rfl 12 (by decide) (hw _ k_315) (fun _ h9 => h9) rfl d_M_holds_14 ?_
    refine lv_iload_n hx hb d_M_holds_17 rfl (lv_at hl 0 rfl) ?_
    refine va_zald hx hb hK hP 1 1 rfl rfl (vp_in_nI (n := j) (by omega) (by omega)) d_M_holds_18 ?_
    refine cx_ti (y := fL j) (by rw [nI_clamp (by omega)]) ?_
    refine lv_if_eq (tgt := 36) hx hb d_M_holds_19 (by decide) (fun r_19 => ?_) (fun r_19 => ?_)
    · have c_19 := r_19
      have e_i : bd_wo fL fM k (j + 1) = bd_wo fL fM k j ||| 0 := by rw [bd_wo, if_pos r_19, ite_self, bd_or0]
      refine lv_iconst (v := 0) hx hb d_M_holds_36 (by decide) ?_
      refine lv_ior hx hb d_M_holds_37 ?_
      refine lv_istore_n (lv' := [(2, .int ((bd_wo fL fM k j) ||| 0)), (3, .int (nI j)), (1, .int (nI k)), (0, .ref h0)]) hx hb d_M_holds_38 rfl hl (by decide) rfl (fun ls hl => ?_)
      rw [← e_i] at hl
      refine lv_iinc (v := nI (j + 1)) (lv' := [(3, .int (nI (j + 1))), (2, .int (bd_wo fL fM k (j + 1))), (1, .int (nI k)), (0, .ref h0)]) hx hb d_M_holds_39 hl (k := 1) rfl (by exact cx_inc j) (by decide) rfl (fun ls hl => ?_)
      refine lv_goto (tgt := 4) hx hb d_M_holds_42 (by decide) ?_
      exact ih_4 (j + 1) _ _ _ ⟨(by omega), hP, hD, hS, lv_sub hl [0, 1, 2, 3] rfl⟩ (by omega)
    · have c_19 := r_19
      refine lv_iload_n hx hb d_M_holds_22 rfl (lv_at hl 0 rfl) ?_
      refine lv_iload_n hx hb d_M_holds_23 rfl (lv_at hl 2 rfl) ?_
      refine lv_icmp_eq (tgt := 36) hx hb d_M_holds_24 (by decide) (fun r_24 => ?_) (fun r_24 => ?_)
      · have c_24 := (nI_eq (a := j) (b := k) (by omega) (by omega)).mp r_24
        have e_i : bd_wo fL fM k (j + 1) = bd_wo fL fM k j ||| 0 := by rw [bd_wo, if_pos c_24, bd_or0]
        refine lv_iconst (v := 0) hx hb d_M_holds_36 (by decide) ?_
        refine lv_ior hx hb d_M_holds_37 ?_
        refine lv_istore_n (lv' := [(2, .int ((bd_wo fL fM k j) ||| 0)), (3, .int (nI j)), (1, .int (nI k)), (0, .ref h0)]) hx hb d_M_holds_38 rfl hl (by decide) rfl (fun ls hl => ?_)
        rw [← e_i] at hl
        refine lv_iinc (v := nI (j + 1)) (lv' := [(3, .int (nI (j + 1))), (2, .int (bd_wo fL fM k (j + 1))), (1, .int (nI k)), (0, .ref h0)]) hx hb d_M_holds_39 hl (k := 1) rfl (by exact cx_inc j) (by decide) rfl (fun ls hl => ?_)
        refine lv_goto (tgt := 4) hx hb d_M_holds_42 (by decide) ?_
        exact ih_4 (j + 1) _ _ _ ⟨(by omega), hP, hD, hS, lv_sub hl [0, 1, 2, 3] rfl⟩ (by omega)
      · have c_24 := mt (nI_eq (a := j) (b := k) (by omega) (by omega)).mpr r_24
        have e_i : bd_wo fL fM k (j + 1) = bd_wo fL fM k j ||| fM j := by rw [bd_wo, if_neg c_24, if_neg r_19]
        refine lv_aload_n hx hb d_M_holds_27 rfl (lv_at hl 3 rfl) ?_
        refine va_get (D := D) (ci := 2) (v := .ref aM) (C := "BuildDrawerModel") (T := TM) (N := 16) hx hb hw inM hown hK hP 0 rfl rfl 11 (by decide) (hw _ k_314) (fun _ h9 => h9) rfl d_M_holds_28 ?_
        refine lv_iload_n hx hb d_M_holds_31 rfl (lv_at hl 0 rfl) ?_
        refine va_iald hx hb hK hP 2 0 rfl rfl (vp_in_nI (n := j) (by omega) (by omega)) d_M_holds_32 ?_
        refine cx_ti (y := fM j) (by rw [nI_clamp (by omega)]) ?_
        refine lv_goto (tgt := 37) hx hb d_M_holds_33 (by decide) ?_
        refine lv_ior hx hb d_M_holds_37 ?_
        refine lv_istore_n (lv' := [(2, .int ((bd_wo fL fM k j) ||| (fM j))), (3, .int (nI j)), (1, .int (nI k)), (0, .ref h0)]) hx hb d_M_holds_38 rfl hl (by decide) rfl (fun ls hl => ?_)
        rw [← e_i] at hl
        refine lv_iinc (v := nI (j + 1)) (lv' := [(3, .int (nI (j + 1))), (2, .int (bd_wo fL fM k (j + 1))), (1, .int (nI k)), (0, .ref h0)]) hx hb d_M_holds_39 hl (k := 1) rfl (by exact cx_inc j) (by decide) rfl (fun ls hl => ?_)
        refine lv_goto (tgt := 4) hx hb d_M_holds_42 (by decide) ?_
        exact ih_4 (j + 1) _ _ _ ⟨(by omega), hP, hD, hS, lv_sub hl [0, 1, 2, 3] rfl⟩ (by omega)
set_option maxHeartbeats 4000000 in
set_option maxRecDepth 100000 in
theorem c_M_canGo (l : Launch) (G : cx_G) (D : va_G) (K : cx_KT) (sz : Nat) (h0 : Nat) (cd : Int32) (seed : Int64) (w : Int64) (cnt : Nat) (vb : Int32) (pl : Int32) (vs : Int32) (aS : Nat) (aA : Nat) (aB : Nat) (aN : Nat) (aM : Nat) (aL : Nat) (wa : Int32) (fo : Int32) (se : Int32) (fL : Nat → Int32) (fN : Nat → Int32) (fM : Nat → Int32) (k : Nat) (hcnt : cnt ≤ 62) (hk : k < cnt) : Met l y_M_canGo w_M_canGo ({ frames := 1, cells := 0, slots := 0, locals := 23 }) (cx_Pc G D (cx_ty K) [(h0, .inr (2, [.int cd, .long seed, .long w, .int (nI cnt), .int vb, .int pl, .int vs, .ref aS, .ref aA, .ref aB, .ref aN, .ref aM, .ref aL, .int wa, .int fo, .int se])), (aL, .inl (K.2.1, 62, .inl fL)), (aN, .inl (K.1, 124, .inl fN)), (aM, .inl (K.1, 124, .inl fM))] sz [.ref h0, .int (nI k)]) (cx_Qi (bd_cg fL fN fM vb vs cnt k) D (cx_ty K) [(h0, .inr (2, [.int cd, .long seed, .long w, .int (nI cnt), .int vb, .int pl, .int vs, .ref aS, .ref aA, .ref aB, .ref aN, .ref aM, .ref aL, .int wa, .int fo, .int se])), (aL, .inl (K.2.1, 62, .inl fL)), (aN, .inl (K.1, 124, .inl fN)), (aM, .inl (K.1, 124, .inl fM))] (va_A [(h0, .inr (2, [.int cd, .long seed, .long w, .int (nI cnt), .int vb, .int pl, .int vs, .ref aS, .ref aA, .ref aB, .ref aN, .ref aM, .ref aL, .int wa, .int fo, .int se])), (aL, .inl (K.2.1, 62, .inl fL)), (aN, .inl (K.1, 124, .inl fN)), (aM, .inl (K.1, 124, .inl fM))] sz)) 0 0 (va_A [(h0, .inr (2, [.int cd, .long seed, .long w, .int (nI cnt), .int vb, .int pl, .int vs, .ref aS, .ref aA, .ref aB, .ref aN, .ref aM, .ref aL, .int wa, .int fo, .int se])), (aL, .inl (K.2.1, 62, .inl fL)), (aN, .inl (K.1, 124, .inl fN)), (aM, .inl (K.1, 124, .inl fM))] sz) := by
  refine Met.ofW (cc := prog_4_method_12_code) (maxL := 3) (ret := (some .boolean)) (by decide) rfl ?_
  intro p e s m args below meth c s₁ B hml hv
  obtain ⟨rfl, hsz, hP, hK, hD0, hE⟩ := hv
  have hx := B.exec
  have hb := B.bytes
  have hr := B.returns
  have hts := atoms_spec (ws := w_M_canGo) B.pre
  have hw : ∀ w ∈ cw, w.before _ s = true := fun w h => hts w (List.mem_cons_of_mem _ h)
  have hown : s.vm.findClass "BuildDrawerModel" = some m.cls := findClass_of_methodNamed B.named
  have hlocks := B.notSynchronized
  subst hsz
  have hD := hD0.self (sz := s.heap.size)
  generalize hAe : va_A [(h0, .inr (2, [.int cd, .long seed, .long w, .int (nI cnt), .int vb, .int pl, .int vs, .ref aS, .ref aA, .ref aB, .ref aN, .ref aM, .ref aL, .int wa, .int fo, .int se])), (aL, .inl (K.2.1, 62, .inl fL)), (aN, .inl (K.1, 124, .inl fN)), (aM, .inl (K.1, 124, .inl fM))] s.heap.size = A at hD hE ⊢
  have hA : ∀ q : Nat, s.heap.size ≤ q → A q := fun q h => by rw [← hAe]; exact Or.inr h
  have hS : va_S A s.heap s.heap [] := va_S.rf
  have hl := lv_entry ([.ref h0, .int (nI k)]) (n := 3) (Nat.le_of_ble_eq_true rfl)
  rw [lg_entry_eq]
  generalize (lg_sl ([.ref h0, .int (nI k)]) ++ List.replicate (3 - (lg_sl ([.ref h0, .int (nI k)])).length) Slot.unset).toArray = ls at hl ⊢
  have hl : lv_has ls 3 [(0, .ref h0), (1, .int (nI k))] := hl
  refine lv_aload_n hx hb d_M_canGo_0 rfl (lv_at hl 0 rfl) ?_
  refine va_get (D := D) (ci := 2) (v := .ref aL) (C := "BuildDrawerModel") (T := TM) (N := 16) hx hb hw inM hown hK hP 0 rfl rfl 12 (by decide) (hw _ k_315) (fun _ h9 => h9) rfl d_M_canGo_1 ?_
  refine lv_iload_n hx hb d_M_canGo_4 rfl (lv_at hl 1 rfl) ?_
  refine va_zald hx hb hK hP 1 1 rfl rfl (vp_in_nI (n := k) (by omega) (by omega)) d_M_canGo_5 ?_
  refine cx_ti (y := fL k) (by rw [nI_clamp (by omega)]) ?_
  refine lv_if_ne (tgt := 11) hx hb d_M_canGo_6 (by decide) (fun r_6 => ?_) (fun r_6 => ?_)
  · have c_6 := r_6
    refine lv_iconst (v := 0) hx hb d_M_canGo_11 (by decide) ?_
    refine lv_istore_n (lv' := [(2, .int 0), (0, .ref h0), (1, .int (nI k))]) hx hb d_M_canGo_12 rfl hl (by decide) rfl (fun ls hl => ?_)
    refine cx_loop (pc := 13) (st := []) (fun (j : Nat) H locs ls => (j ≤ cnt) ∧ (bd_nx fL fN k j = false) ∧ va_P D vwCl [(h0, .inr (2, [.int cd, .long seed, .long w, .int (nI cnt), .int vb, .int pl, .int vs, .ref aS, .ref aA, .ref aB, .ref aN, .ref aM, .ref aL, .int wa, .int fo, .int se])), (aL, .inl (K.2.1, 62, .inl fL)), (aN, .inl (K.1, 124, .inl fN)), (aM, .inl (K.1, 124, .inl fM))] H ∧ va_D A [(h0, .inr (2, [.int cd, .long seed, .long w, .int (nI cnt), .int vb, .int pl, .int vs, .ref aS, .ref aA, .ref aB, .ref aN, .ref aM, .ref aL, .int wa, .int fo, .int se])), (aL, .inl (K.2.1, 62, .inl fL)), (aN, .inl (K.1, 124, .inl fN)), (aM, .inl (K.1, 124, .inl fM))] ∧ va_S A s.heap H locs ∧ lv_has ls 3 [(2, .int (nI j)), (1, .int (nI k)), (0, .ref h0)]) (fun (j : Nat) => cnt - j) (fun z H locs ls hI ih_13 => ?_) 0 ⟨Nat.zero_le _, rfl, hP, hD, hS, lv_sub hl [0, 2, 1] rfl⟩
    obtain ⟨j, rfl⟩ : ∃ y, y = z := ⟨_, rfl⟩
    obtain ⟨hj, hnx, hP, hD, hS, hl⟩ := hI
    have hP : va_P D vwCl [(h0, .inr (2, [.int cd, .long seed, .long w, .int (nI cnt), .int vb, .int pl, .int vs, .ref aS, .ref aA, .ref aB, .ref aN, .ref aM, .ref aL, .int wa, .int fo, .int se])), (aL, .inl (K.2.1, 62, .inl fL)), (aN, .inl (K.1, 124, .inl fN)), (aM, .inl (K.1, 124, .inl fM))] H := hP
    have hD : va_D A [(h0, .inr (2, [.int cd, .long seed, .long w, .int (nI cnt), .int vb, .int pl, .int vs, .ref aS, .ref aA, .ref aB, .ref aN, .ref aM, .ref aL, .int wa, .int fo, .int se])), (aL, .inl (K.2.1, 62, .inl fL)), (aN, .inl (K.1, 124, .inl fN)), (aM, .inl (K.1, 124, .inl fM))] := hD
    have hl : lv_has ls 3 [(2, .int (nI j)), (1, .int (nI k)), (0, .ref h0)] := hl
    refine lv_iload_n hx hb d_M_canGo_13 rfl (lv_at hl 0 rfl) ?_
    refine lv_aload_n hx hb d_M_canGo_14 rfl (lv_at hl 2 rfl) ?_
    refine va_get (D := D) (ci := 2) (v := .int (nI cnt)) (C := "BuildDrawerModel") (T := TM) (N := 16) hx hb hw inM hown hK hP 0 rfl rfl 3 (by decide) (hw _ k_306) (fun _ h9 => h9) rfl d_M_canGo_15 ?_
    refine lv_icmp_ge (tgt := 53) hx hb d_M_canGo_18 (by decide) (fun r_18 => ?_) (fun r_18 => ?_)
    · have c_18 := (nI_leI (a := cnt) (b := j) (by omega) (by omega)).mp r_18
      refine lv_aload_n hx hb d_M_canGo_53 rfl (lv_at hl 2 rfl) ?_
      refine lv_iload_n hx hb d_M_canGo_54 rfl (lv_at hl 1 rfl) ?_
      refine cx_ci (wr := [(aN, .inl (K.1, 124, .inl fN))]) (wN := [(h0, .inr (2, [.int cd, .long seed, .long w, .int (nI cnt), .int vb, .int pl, .int vs, .ref aS, .ref aA, .ref aB, .ref aN, .ref aM, .ref aL, .int wa, .int fo, .int se])), (aL, .inl (K.2.1, 62, .inl fL)), (aN, .inl (K.1, 124, .inl fN)), (aM, .inl (K.1, 124, .inl fM))]) (va_runV (As := [.int (nI k)]) (rest := []) ⟨hx, hb, hml, hown, hw⟩ (c_M_holdsK l G D K H.size h0 cd seed w cnt vb pl vs aS aA aB aN aM aL wa fo se fL fM k (by omega) (by omega)) (cwV 1 hw (cx_gV k_389 k_391 ks_M_holds k_3 k_392) rfl rfl rfl (by decide +kernel) ⟨Nat.le_of_ble_eq_true rfl, Nat.le_of_ble_eq_true rfl⟩) (cx_preV (q0 := 0) (ci := 2) hK hP hD hS hA hE rfl rfl [0, 1, 3] rfl rfl (by decide)) rfl rfl hl.1 rfl (lv_room (Nat.le_of_ble_eq_true rfl)) d_M_canGo_55 ⟨Nat.le_of_ble_eq_true rfl, Nat.le_of_ble_eq_true rfl⟩) hP hD hS hA [0, 1, 3] [2] rfl rfl (by decide) (by decide) [1, 2, 0, 3] rfl rfl (by decide) (fun H locs hP hD hS => ?_)
      exact cx_zret hx hb hr hlocks hK hP hD hS d_M_canGo_58 ((bd_01 (bd_ho_01 _ _ _)).1) (by rw [bd_cg, if_neg r_6, if_neg (by rw [← show j = cnt by omega, hnx]; decide)]) (rfl)
    · have c_18 := mt (nI_leI (a := cnt) (b := j) (by omega) (by omega)).mpr r_18
      refine lv_iload_n hx hb d_M_canGo_21 rfl (lv_at hl 0 rfl) ?_
      refine lv_iload_n hx hb d_M_canGo_22 rfl (lv_at hl 1 rfl) ?_
      refine lv_icmp_eq (tgt := 47) hx hb d_M_canGo_23 (by decide) (fun r_23 => ?_) (fun r_23 => ?_)
      · have c_23 := (nI_eq (a := j) (b := k) (by omega) (by omega)).mp r_23
        have e_n := bd_nx_miss hnx (Or.inl c_23)
        refine lv_iinc (v := nI (j + 1)) (lv' := [(2, .int (nI (j + 1))), (1, .int (nI k)), (0, .ref h0)]) hx hb d_M_canGo_47 hl (k := 0) rfl (by exact cx_inc j) (by decide) rfl (fun ls hl => ?_)
        refine lv_goto (tgt := 13) hx hb d_M_canGo_50 (by decide) ?_
        exact ih_13 (j + 1) _ _ _ ⟨(by omega), e_n, hP, hD, hS, lv_sub hl [0, 1, 2] rfl⟩ (by omega)
      · have c_23 := mt (nI_eq (a := j) (b := k) (by omega) (by omega)).mpr r_23
        refine lv_aload_n hx hb d_M_canGo_26 rfl (lv_at hl 2 rfl) ?_
        refine va_get (D := D) (ci := 2) (v := .ref aL) (C := "BuildDrawerModel") (T := TM) (N := 16) hx hb hw inM hown hK hP 0 rfl rfl 12 (by decide) (hw _ k_315) (fun _ h9 => h9) rfl d_M_canGo_27 ?_
        refine lv_iload_n hx hb d_M_canGo_30 rfl (lv_at hl 0 rfl) ?_
        refine va_zald hx hb hK hP 1 1 rfl rfl (vp_in_nI (n := j) (by omega) (by omega)) d_M_canGo_31 ?_
        refine cx_ti (y := fL j) (by rw [nI_clamp (by omega)]) ?_
        refine lv_if_eq (tgt := 47) hx hb d_M_canGo_32 (by decide) (fun r_32 => ?_) (fun r_32 => ?_)
        · have c_32 := r_32
          have e_n := bd_nx_miss hnx (Or.inr (Or.inl r_32))
          refine lv_iinc (v := nI (j + 1)) (lv' := [(2, .int (nI (j + 1))), (1, .int (nI k)), (0, .ref h0)]) hx hb d_M_canGo_47 hl (k := 0) rfl (by exact cx_inc j) (by decide) rfl (fun ls hl => ?_)
          refine lv_goto (tgt := 13) hx hb d_M_canGo_50 (by decide) ?_
          exact ih_13 (j + 1) _ _ _ ⟨(by omega), e_n, hP, hD, hS, lv_sub hl [0, 1, 2] rfl⟩ (by omega)
        · have c_32 := r_32
          refine lv_aload_n hx hb d_M_canGo_35 rfl (lv_at hl 2 rfl) ?_
          refine va_get (D := D) (ci := 2) (v := .ref aN) (C := "BuildDrawerModel") (T := TM) (N := 16) hx hb hw inM hown hK hP 0 rfl rfl 10 (by decide) (hw _ k_313) (fun _ h9 => h9) rfl d_M_canGo_36 ?_
          refine lv_iload_n hx hb d_M_canGo_39 rfl (lv_at hl 0 rfl) ?_
          refine va_iald hx hb hK hP 2 0 rfl rfl (vp_in_nI (n := j) (by omega) (by omega)) d_M_canGo_40 ?_
          refine cx_ti (y := fN j) (by rw [nI_clamp (by omega)]) ?_
          refine lv_iload_n hx hb d_M_canGo_41 rfl (lv_at hl 1 rfl) ?_
          refine lv_icmp_ne (tgt := 47) hx hb d_M_canGo_42 (by decide) (fun r_42 => ?_) (fun r_42 => ?_)
          · have c_42 := r_42
            have e_n := bd_nx_miss hnx (Or.inr (Or.inr r_42))
            refine lv_iinc (v := nI (j + 1)) (lv' := [(2, .int (nI (j + 1))), (1, .int (nI k)), (0, .ref h0)]) hx hb d_M_canGo_47 hl (k := 0) rfl (by exact cx_inc j) (by decide) rfl (fun ls hl => ?_)
            refine lv_goto (tgt := 13) hx hb d_M_canGo_50 (by decide) ?_
            exact ih_13 (j + 1) _ _ _ ⟨(by omega), e_n, hP, hD, hS, lv_sub hl [0, 1, 2] rfl⟩ (by omega)
          · have c_42 := r_42
            refine lv_iconst (v := 0) hx hb d_M_canGo_45 (by decide) ?_
            exact cx_zret hx hb hr hlocks hK hP hD hS d_M_canGo_46 (rfl) (by rw [bd_cg, if_neg r_6, if_pos (bd_nx_mono (bd_nx_hit c_23 r_32 r_42) (by omega))]) (rfl)
  · have c_6 := r_6
    refine lv_iconst (v := 0) hx hb d_M_canGo_9 (by decide) ?_
    exact cx_zret hx hb hr hlocks hK hP hD hS d_M_canGo_10 (rfl) (by rw [bd_cg, if_pos r_6]) (rfl)
set_option maxHeartbeats 4000000 in
set_option maxRecDepth 100000 in
theorem c_M_count (l : Launch) (G : cx_G) (D : va_G) (K : cx_KT) (sz : Nat) (h0 : Nat) (cd : Int32) (seed : Int64) (w : Int64) (cnt : Nat) (vb : Int32) (pl : Int32) (vs : Int32) (aS : Nat) (aA : Nat) (aB : Nat) (aN : Nat) (aM : Nat) (aL : Nat) (wa : Int32) (fo : Int32) (se : Int32) (fL : Nat → Int32) (hcnt : cnt ≤ 62) : Met l y_M_count w_M_count ({ frames := 0, cells := 0, slots := 0, locals := 0 }) (cx_Pc G D (cx_ty K) [(h0, .inr (2, [.int cd, .long seed, .long w, .int (nI cnt), .int vb, .int pl, .int vs, .ref aS, .ref aA, .ref aB, .ref aN, .ref aM, .ref aL, .int wa, .int fo, .int se])), (aL, .inl (K.2.1, 62, .inl fL))] sz [.ref h0]) (cx_Qi (nI (bd_cl fL cnt)) D (cx_ty K) [(h0, .inr (2, [.int cd, .long seed, .long w, .int (nI cnt), .int vb, .int pl, .int vs, .ref aS, .ref aA, .ref aB, .ref aN, .ref aM, .ref aL, .int wa, .int fo, .int se])), (aL, .inl (K.2.1, 62, .inl fL))] (va_A [(h0, .inr (2, [.int cd, .long seed, .long w, .int (nI cnt), .int vb, .int pl, .int vs, .ref aS, .ref aA, .ref aB, .ref aN, .ref aM, .ref aL, .int wa, .int fo, .int se])), (aL, .inl (K.2.1, 62, .inl fL))] sz)) 0 0 (va_A [(h0, .inr (2, [.int cd, .long seed, .long w, .int (nI cnt), .int vb, .int pl, .int vs, .ref aS, .ref aA, .ref aB, .ref aN, .ref aM, .ref aL, .int wa, .int fo, .int se])), (aL, .inl (K.2.1, 62, .inl fL))] sz) := by
  refine Met.ofW (cc := prog_4_method_13_code) (maxL := 3) (ret := (some .int)) (by decide) rfl ?_
  intro p e s m args below meth c s₁ B hml hv
  obtain ⟨rfl, hsz, hP, hK, hD0, hE⟩ := hv
  have hx := B.exec
  have hb := B.bytes
  have hr := B.returns
  have hts := atoms_spec (ws := w_M_count) B.pre
  have hw : ∀ w ∈ cw, w.before _ s = true := fun w h => hts w (List.mem_cons_of_mem _ h)
  have hown : s.vm.findClass "BuildDrawerModel" = some m.cls := findClass_of_methodNamed B.named
  have hlocks := B.notSynchronized
  subst hsz
  have hD := hD0.self (sz := s.heap.size)
  generalize hAe : va_A [(h0, .inr (2, [.int cd, .long seed, .long w, .int (nI cnt), .int vb, .int pl, .int vs, .ref aS, .ref aA, .ref aB, .ref aN, .ref aM, .ref aL, .int wa, .int fo, .int se])), (aL, .inl (K.2.1, 62, .inl fL))] s.heap.size = A at hD hE ⊢
  have hA : ∀ q : Nat, s.heap.size ≤ q → A q := fun q h => by rw [← hAe]; exact Or.inr h
  have hS : va_S A s.heap s.heap [] := va_S.rf
  have hl := lv_entry ([.ref h0]) (n := 3) (Nat.le_of_ble_eq_true rfl)
  rw [lg_entry_eq]
  generalize (lg_sl ([.ref h0]) ++ List.replicate (3 - (lg_sl ([.ref h0])).length) Slot.unset).toArray = ls at hl ⊢
  have hl : lv_has ls 3 [(0, .ref h0)] := hl
  refine lv_iconst (v := 0) hx hb d_M_count_0 (by decide) ?_
  refine lv_istore_n (lv' := [(1, .int 0), (0, .ref h0)]) hx hb d_M_count_1 rfl hl (by decide) rfl (fun ls hl => ?_)
  refine lv_iconst (v := 0) hx hb d_M_count_2 (by decide) ?_
  refine lv_istore_n (lv' := [(2, .int 0), (1, .int 0), (0, .ref h0)]) hx hb d_M_count_3 rfl hl (by decide) rfl (fun ls hl => ?_)
  refine cx_loop (pc := 4) (st := []) (fun (i : Nat) H locs ls => (i ≤ cnt) ∧ va_P D vwCl [(h0, .inr (2, [.int cd, .long seed, .long w, .int (nI cnt), .int vb, .int pl, .int vs, .ref aS, .ref aA, .ref aB, .ref aN, .ref aM, .ref aL, .int wa, .int fo, .int se])), (aL, .inl (K.2.1, 62, .inl fL))] H ∧ va_D A [(h0, .inr (2, [.int cd, .long seed, .long w, .int (nI cnt), .int vb, .int pl, .int vs, .ref aS, .ref aA, .ref aB, .ref aN, .ref aM, .ref aL, .int wa, .int fo, .int se])), (aL, .inl (K.2.1, 62, .inl fL))] ∧ va_S A s.heap H locs ∧ lv_has ls 3 [(2, .int (nI i)), (1, .int (nI (bd_cl fL i))), (0, .ref h0)]) (fun (i : Nat) => cnt - i) (fun z H locs ls hI ih_4 => ?_) 0 ⟨Nat.zero_le _, hP, hD, hS, lv_sub hl [0, 1, 2] rfl⟩
  obtain ⟨i, rfl⟩ : ∃ y, y = z := ⟨_, rfl⟩
  obtain ⟨hi, hP, hD, hS, hl⟩ := hI
  have hP : va_P D vwCl [(h0, .inr (2, [.int cd, .long seed, .long w, .int (nI cnt), .int vb, .int pl, .int vs, .ref aS, .ref aA, .ref aB, .ref aN, .ref aM, .ref aL, .int wa, .int fo, .int se])), (aL, .inl (K.2.1, 62, .inl fL))] H := hP
  have hD : va_D A [(h0, .inr (2, [.int cd, .long seed, .long w, .int (nI cnt), .int vb, .int pl, .int vs, .ref aS, .ref aA, .ref aB, .ref aN, .ref aM, .ref aL, .int wa, .int fo, .int se])), (aL, .inl (K.2.1, 62, .inl fL))] := hD
  have hl : lv_has ls 3 [(2, .int (nI i)), (1, .int (nI (bd_cl fL i))), (0, .ref h0)] := hl
  refine lv_iload_n hx hb d_M_count_4 rfl (lv_at hl 0 rfl) ?_
  refine lv_aload_n hx hb d_M_count_5 rfl (lv_at hl 2 rfl) ?_
  refine va_get (D := D) (ci := 2) (v := .int (nI cnt)) (C := "BuildDrawerModel") (T := TM) (N := 16) hx hb hw inM hown hK hP 0 rfl rfl 3 (by decide) (hw _ k_306) (fun _ h9 => h9) rfl d_M_count_6 ?_
  refine lv_icmp_ge (tgt := 35) hx hb d_M_count_9 (by decide) (fun r_9 => ?_) (fun r_9 => ?_)
  · have c_9 := (nI_leI (a := cnt) (b := i) (by omega) (by omega)).mp r_9
    refine lv_iload_n hx hb d_M_count_35 rfl (lv_at hl 1 rfl) ?_
    exact cx_iret hx hb hr hlocks hK hP hD hS d_M_count_36 (by rw [show i = cnt by omega]) (rfl)
  · have c_9 := mt (nI_leI (a := cnt) (b := i) (by omega) (by omega)).mpr r_9
    refine lv_iload_n hx hb d_M_count_12 rfl (lv_at hl 1 rfl) ?_
    refine lv_aload_n hx hb d_M_count_13 rfl (lv_at hl 2 rfl) ?_
    refine va_get (D := D) (ci := 2) (v := .ref aL) (C := "BuildDrawerModel") (T := TM) (N := 16) hx hb hw inM hown hK hP 0 rfl rfl 12 (by decide) (hw _ k_315) (fun _ h9 => h9) rfl d_M_count_14 ?_
    refine lv_iload_n hx hb d_M_count_17 rfl (lv_at hl 0 rfl) ?_
    refine va_zald hx hb hK hP 1 1 rfl rfl (vp_in_nI (n := i) (by omega) (by omega)) d_M_count_18 ?_
    refine cx_ti (y := fL i) (by rw [nI_clamp (by omega)]) ?_
    refine lv_if_eq (tgt := 26) hx hb d_M_count_19 (by decide) (fun r_19 => ?_) (fun r_19 => ?_)
    · have c_19 := r_19
      have e_i : bd_cl fL (i + 1) = bd_cl fL i + 0 := by rw [bd_cl, if_pos r_19, Nat.add_zero]
      refine lv_iconst (v := 0) hx hb d_M_count_26 (by decide) ?_
      refine lv_iadd hx hb d_M_count_27 ?_
      refine cx_ti (y := nI (bd_cl fL i + 0)) (by exact nI_add (bd_cl fL i) 0) ?_
      refine lv_istore_n (lv' := [(1, .int (nI (bd_cl fL i + 0))), (2, .int (nI i)), (0, .ref h0)]) hx hb d_M_count_28 rfl hl (by decide) rfl (fun ls hl => ?_)
      rw [← e_i] at hl
      refine lv_iinc (v := nI (i + 1)) (lv' := [(2, .int (nI (i + 1))), (1, .int (nI (bd_cl fL (i + 1)))), (0, .ref h0)]) hx hb d_M_count_29 hl (k := 1) rfl (by exact cx_inc i) (by decide) rfl (fun ls hl => ?_)
      refine lv_goto (tgt := 4) hx hb d_M_count_32 (by decide) ?_
      exact ih_4 (i + 1) _ _ _ ⟨(by omega), hP, hD, hS, lv_sub hl [0, 1, 2] rfl⟩ (by omega)
    · have c_19 := r_19
      have e_i : bd_cl fL (i + 1) = bd_cl fL i + 1 := by rw [bd_cl, if_neg r_19]
      refine lv_iconst (v := 1) hx hb d_M_count_22 (by decide) ?_
      refine lv_goto (tgt := 27) hx hb d_M_count_23 (by decide) ?_
      refine lv_iadd hx hb d_M_count_27 ?_
      refine cx_ti (y := nI (bd_cl fL i + 1)) (by exact nI_add (bd_cl fL i) 1) ?_
      refine lv_istore_n (lv' := [(1, .int (nI (bd_cl fL i + 1))), (2, .int (nI i)), (0, .ref h0)]) hx hb d_M_count_28 rfl hl (by decide) rfl (fun ls hl => ?_)
      rw [← e_i] at hl
      refine lv_iinc (v := nI (i + 1)) (lv' := [(2, .int (nI (i + 1))), (1, .int (nI (bd_cl fL (i + 1)))), (0, .ref h0)]) hx hb d_M_count_29 hl (k := 1) rfl (by exact cx_inc i) (by decide) rfl (fun ls hl => ?_)
      refine lv_goto (tgt := 4) hx hb d_M_count_32 (by decide) ?_
      exact ih_4 (i + 1) _ _ _ ⟨(by omega), hP, hD, hS, lv_sub hl [0, 1, 2] rfl⟩ (by omega)
