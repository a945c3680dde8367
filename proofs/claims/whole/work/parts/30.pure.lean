/-! two rows that agree below n give the same -/
def bd_eq (n : Nat) (f g : Nat → Int32) : Prop := ∀ j, j < n → f j = g j
theorem bd_eq.dn {n m : Nat} {f g : Nat → Int32} (h : bd_eq n f g) (hm : m ≤ n) : bd_eq m f g := fun j hj => h j (by omega)
theorem bd_cl_c {f g : Nat → Int32} : ∀ {n : Nat}, bd_eq n f g → bd_cl f n = bd_cl g n := by
  intro n
  induction n with
  | zero => intro _; rfl
  | succ n ih => intro h; rw [bd_cl, bd_cl, h n (by omega), ih (h.dn (by omega))]
theorem bd_ml_c {f g a b : Nat → Int32} : ∀ {n : Nat}, bd_eq n f g → bd_eq n a b → bd_ml f a n = bd_ml g b n := by
  intro n
  induction n with
  | zero => intro _ _; rfl
  | succ n ih => intro h k; rw [bd_ml, bd_ml, h n (by omega), k n (by omega), ih (h.dn (by omega)) (k.dn (by omega))]
theorem bd_cs_c {f g a b c d : Nat → Int32} : ∀ {n : Nat}, bd_eq n f g → bd_eq n a b → bd_eq n c d → bd_cs f a c n = bd_cs g b d n := by
  intro n
  induction n with
  | zero => intro _ _ _; rfl
  | succ n ih => intro h k l; rw [bd_cs, bd_cs, h n (by omega), k n (by omega), l n (by omega), ih (h.dn (by omega)) (k.dn (by omega)) (l.dn (by omega))]
theorem bd_nx_c {f g a b : Nat → Int32} {k : Nat} : ∀ {n : Nat}, bd_eq n f g → bd_eq n a b → bd_nx f a k n = bd_nx g b k n := by
  intro n
  induction n with
  | zero => intro _ _; rfl
  | succ n ih => intro h l; rw [bd_nx, bd_nx, h n (by omega), l n (by omega), ih (h.dn (by omega)) (l.dn (by omega))]
theorem bd_wo_c {f g a b : Nat → Int32} {k : Nat} : ∀ {n : Nat}, bd_eq n f g → bd_eq n a b → bd_wo f a k n = bd_wo g b k n := by
  intro n
  induction n with
  | zero => intro _ _; rfl
  | succ n ih => intro h l; rw [bd_wo, bd_wo, h n (by omega), l n (by omega), ih (h.dn (by omega)) (l.dn (by omega))]
theorem bd_cg_c {f g a b c d : Nat → Int32} {vb vs : Int32} {n k : Nat} (h : bd_eq n f g) (h2 : bd_eq n a b) (h3 : bd_eq n c d) (hk : k < n) : bd_cg f a c vb vs n k = bd_cg g b d vb vs n k := by
  rw [bd_cg, bd_cg, h k hk, bd_nx_c h h2, bd_wo_c h h3]
theorem bd_lg_c {f g : Nat → Int32} {i : Int32} : ∀ {n j : Nat} {b : Int32}, bd_eq (j + n) f g → bd_lg f i n j b = bd_lg g i n j b := by
  intro n
  induction n with
  | zero => intro j b _; rfl
  | succ n ih =>
    intro j b h
    rw [bd_lg, bd_lg, h j (by omega), ih (h.dn (by omega)), ih (h.dn (by omega))]
theorem bd_left_c {f g : Nat → Int32} {n : Nat} {i : Int32} (h : bd_eq n f g) : bd_left f n i = bd_left g n i := by
  rw [bd_left, bd_left, bd_lg_c (h.dn (by omega))]
theorem bd_mi_c {f g : Nat → Int32} : ∀ {n j : Nat}, bd_eq (j + n) f g → bd_mi f n j = bd_mi g n j := by
  intro n
  induction n with
  | zero => intro j _; rfl
  | succ n ih =>
    intro j h
    rw [bd_mi, bd_mi, h j (by omega), ih (h.dn (by omega))]
theorem bd_eq_upd {n k : Nat} {f g : Nat → Int32} {x : Int32} (h : bd_eq n f g) : bd_eq n (upd f k x) (upd g k x) := by
  intro j hj
  by_cases h2 : j = k
  · subst h2; rw [pk_us, pk_us]
  · rw [pk_un h2, pk_un h2]; exact h j hj
theorem bd_lo_c {c d : (Nat → Int32) → Nat → Int32} {n : Nat} (hc : ∀ f g k, bd_eq n f g → k < n → c f k = d g k) : ∀ {k : Nat}, k ≤ n → ∀ {f g : Nat → Int32} {w : Int32}, bd_eq n f g → bd_eq n (bd_lo c k f w).1 (bd_lo d k g w).1 ∧ (bd_lo c k f w).2 = (bd_lo d k g w).2 := by
  intro k
  induction k with
  | zero => intro _ f g w h; exact ⟨h, rfl⟩
  | succ k ih =>
    intro hk f g w h
    rw [bd_lo, bd_lo, hc f g k h (by omega)]
    split
    · exact ih (by omega) h
    · exact ih (by omega) (bd_eq_upd h)
theorem bd_la_c {r t : (Nat → Int32) → (Nat → Int32) × Int32} {n : Nat} (hr : ∀ f g, bd_eq n f g → bd_eq n (r f).1 (t g).1 ∧ (r f).2 = (t g).2) : ∀ {k : Nat} {f g : Nat → Int32} {a : Int32}, bd_eq n f g → bd_eq n (bd_la r k f a) (bd_la t k g a) := by
  intro k
  induction k with
  | zero => intro f g a h; exact h
  | succ k ih =>
    intro f g a h
    rw [bd_la, bd_la]
    split
    · exact h
    · rw [(hr f g h).2]; exact ih (hr f g h).1
theorem bd_fil_c {n : Nat} {v f g : Nat → Int32} : bd_eq n (bd_fil v n f) (bd_fil v n g) := by
  intro j hj
  rw [bd_fil, bd_fil, if_pos hj, if_pos hj]
theorem bd_sh_c {f g a b c d : Nat → Int32} {vb vs : Int32} {n : Nat} (h : bd_eq n f g) (h2 : bd_eq n a b) (h3 : bd_eq n c d) : bd_eq n (bd_sh f a c vb vs n) (bd_sh g b d vb vs n) := by
  rw [bd_sh, bd_sh, bd_ml_c h h3]
  split
  · exact bd_fil_c
  · exact bd_la_c (fun f g hf => bd_lo_c (c := fun f k => bd_cg f a c vb vs n k) (d := fun f k => bd_cg f b d vb vs n k) (fun f g k hf hk => bd_cg_c hf h2 h3 hk) (Nat.le_refl _) hf) h
theorem bd_tx_c {s s2 a a2 b b2 m m2 f g : Nat → Int32} : ∀ {n : Nat}, bd_eq n s s2 → bd_eq n a a2 → bd_eq n b b2 → bd_eq n m m2 → bd_eq n f g → bd_tx s a b m f n = bd_tx s2 a2 b2 m2 g n := by
  intro n
  induction n with
  | zero => intro _ _ _ _ _; rfl
  | succ n ih =>
    intro h1 h2 h3 h4 h5
    rw [bd_tx, bd_tx, h1 n (by omega), h2 n (by omega), h3 n (by omega), h4 n (by omega), h5 n (by omega), ih (h1.dn (by omega)) (h2.dn (by omega)) (h3.dn (by omega)) (h4.dn (by omega)) (h5.dn (by omega))]
theorem bd_part_c {s s2 a a2 b b2 m m2 k k2 f g : Nat → Int32} {n j : Nat} {wh : Int32} (h1 : bd_eq n s s2) (h2 : bd_eq n a a2) (h3 : bd_eq n b b2) (h4 : bd_eq n m m2) (h5 : bd_eq n k k2) (h6 : bd_eq n f g) (hj : j < n) : bd_part s a b m k f n j wh = bd_part s2 a2 b2 m2 k2 g n j wh := by
  rw [bd_part, bd_part, h1 j hj, h2 j hj, h3 j hj, h4 j hj, h5 j hj, h6 j hj, bd_cs_c h6 h1 h3]
theorem bd_fio_c0 {n : Nat} {v f g : Nat → Int32} : bd_eq n (bd_fil v n f) (bd_fio v 0 n g) := by
  intro j hj
  have h := bd_fio_at (g := v) (f := g) (fr := 0) hj
  rw [Nat.zero_add] at h
  rw [h, bd_fil, if_pos hj]
theorem bd_fio_c62 {n k : Nat} {v f g : Nat → Int32} (hk : k ≤ 62) (h : bd_eq k f g) : bd_eq k f (bd_fio v 62 n g) := by
  intro j hj
  rw [bd_fio, if_neg (by omega)]
  exact h j hj
/-! what is drawn is within the bounds that the text needs -/
theorem bd_or_lt {a b : Nat} (ha : a < 256) (hb : b < 256) : ∃ m, m < 256 ∧ nI a ||| nI b = nI m := by
  refine ⟨a ||| b, Nat.or_lt_two_pow (n := 8) ha hb, ?_⟩
  apply Int32.toBitVec_inj.mp
  rw [Int32.toBitVec_or]
  show BitVec.ofNat 32 a ||| BitVec.ofNat 32 b = BitVec.ofNat 32 (a ||| b)
  apply BitVec.eq_of_toNat_eq
  rw [BitVec.toNat_or, BitVec.toNat_ofNat, BitVec.toNat_ofNat, BitVec.toNat_ofNat, Nat.mod_eq_of_lt (by omega), Nat.mod_eq_of_lt (by omega), Nat.mod_eq_of_lt (Nat.lt_trans (Nat.or_lt_two_pow (n := 8) ha hb) (by decide))]
theorem bd_bit_lt : ∀ p, p < 16 → ∃ m, m < 256 ∧ bd_bit (nI p) = nI m := by
  have h : ∀ p, p < 16 → (bd_bit (nI p) = nI (if p < 8 then 2 ^ p else 0) ∧ (if p < 8 then 2 ^ p else 0) < 256) := by decide +kernel
  intro p hp
  exact ⟨_, (h p hp).2, (h p hp).1⟩
theorem bd_pb_lt (seed : Int64) (kind size : Int32) : ∃ m, m < 256 ∧ bd_pb seed kind size = nI m := by
  unfold bd_pb
  split
  · obtain ⟨j, hj, e⟩ := bd_c_lt (w := bd_w0 seed kind size) (k := 16) (by omega) (by omega)
    rw [show (16 : Int32) = nI 16 from rfl, e]
    exact bd_bit_lt j hj
  · exact ⟨0, by omega, rfl⟩
theorem bd_cx (w : Int64) (k : Nat) (h : 0 < k) (h2 : k < 2 ^ 31) {n : Int32} (hn : n = nI k) : ∃ m, m < k ∧ bd_c w n = nI m := by
  rw [hn]; exact bd_c_lt h h2
theorem bd_sk_lt : ∀ k, k < 8 → ∃ m, m < 8 ∧ bd_sk k = nI m := by
  intro k hk
  rcases (show k = 0 ∨ k = 1 ∨ k = 2 ∨ k = 3 ∨ k = 4 ∨ k = 5 ∨ k = 6 ∨ k = 7 by omega) with rfl | rfl | rfl | rfl | rfl | rfl | rfl | rfl
  · exact ⟨0, by omega, rfl⟩
  · exact ⟨2, by omega, rfl⟩
  · exact ⟨1, by omega, rfl⟩
  · exact ⟨3, by omega, rfl⟩
  · exact ⟨4, by omega, rfl⟩
  · exact ⟨5, by omega, rfl⟩
  · exact ⟨6, by omega, rfl⟩
  · exact ⟨7, by omega, rfl⟩
theorem bd_gS_lt {seed : Int64} {k z i : Nat} (hk : k < 8) : ∃ m, m < 8 ∧ bd_gS seed k z i = nI m := by
  rw [bd_gS, bd_nS, bd_so]
  split
  · exact ⟨0, by omega, rfl⟩
  · split
    · exact ⟨1, by omega, rfl⟩
    · split
      · exact ⟨0, by omega, rfl⟩
      · exact bd_sk_lt k hk
theorem bd_b_lt (so pb : Int32) (w : Int64) (hp : ∃ m, m < 256 ∧ pb = nI m) : ∃ m, m < 1000 ∧ bd_b so pb w = nI m := by
  have up : ∀ {x : Int32} {k : Nat}, k ≤ 1000 → (∃ m, m < k ∧ x = nI m) → ∃ m, m < 1000 ∧ x = nI m := fun hk h => by
    obtain ⟨m, h1, h2⟩ := h
    exact ⟨m, by omega, h2⟩
  unfold bd_b
  split
  · exact up (by omega) (bd_cx w 100 (by omega) (by omega) rfl)
  · split
    · exact up (by omega) (bd_cx w 8 (by omega) (by omega) rfl)
    · split
      · obtain ⟨m, hm, rfl⟩ := hp
        obtain ⟨j, hj, e⟩ := bd_cx w 256 (by omega) (by omega) (n := 256) rfl
        rw [e]
        exact up (by omega) (bd_or_lt hj hm)
      · split
        · exact up (by omega) (bd_cx w 10 (by omega) (by omega) rfl)
        · split
          · obtain ⟨j, hj, e⟩ := bd_cx w 12 (by omega) (by omega) (n := 12) rfl
            unfold bd_stp
            split
            · rw [e]; exact ⟨j + 100, by omega, nI_add j 100⟩
            · rw [e]; exact ⟨j, by omega, rfl⟩
          · split
            · exact up (by omega) (bd_cx w 5 (by omega) (by omega) rfl)
            · split
              · exact up (by omega) (bd_cx w 7 (by omega) (by omega) rfl)
              · exact up (by omega) (bd_cx w 6 (by omega) (by omega) rfl)
theorem bd_ok_g {seed : Int64} {k z i : Nat} (hk : k < 8) (hi : i < 62) : bd_ok (bd_gS seed k z i) (bd_gA seed k z i) (bd_gB seed k z i) (bd_gN seed k z i) := by
  refine ⟨bd_gS_lt hk, bd_cx _ 1000 (by omega) (by omega) rfl, bd_b_lt _ _ _ (bd_pb_lt _ _ _), ?_⟩
  show bd_ne (nI i) _ = -1 ∨ ∃ m, m < 100 ∧ bd_ne (nI i) _ = nI m
  unfold bd_ne
  split
  · exact Or.inl rfl
  · split
    · exact Or.inr ⟨0, by omega, rfl⟩
    · split
      · exact Or.inl rfl
      · obtain ⟨m, hm, e⟩ := bd_cx (bd_w (bd_v3 (bd_sk k) (nI i) (bd_gW seed k z i))) (i + 1) (by omega) (by omega) (n := nI i + 1) (nI_1 i)
        exact Or.inr ⟨m, by omega, e⟩
theorem bd_fil_at {v f : Nat → Int32} {n j : Nat} (h : j < n) : bd_fil v n f j = v j := by rw [bd_fil, if_pos h]
/-! the law's relation between the class's cells and the reference's -/
def lw_R (cnt : Nat) (vs tl : Int32) (fS fA fB fN fM fL fT gS gA gB gN gM gL : Nat → Int32) : Prop :=
  cnt ≤ 62 ∧ (vs = 0 ∨ vs = 1) ∧ bd_eq cnt fS gS ∧ bd_eq cnt fA gA ∧ bd_eq cnt fB gB ∧ bd_eq cnt fN gN ∧ bd_eq cnt fM gM ∧ bd_eq cnt fL gL ∧ (∀ j, j < cnt → bd_ok (fS j) (fA j) (fB j) (fN j)) ∧
  (tl = -1 ∨ (tl = nI (bd_tx fS fA fB fN fL cnt).length ∧ ∀ j, j < (bd_tx fS fA fB fN fL cnt).length → fT j = nI ((bd_tx fS fA fB fN fL cnt).getD j 0)))
