-- the bridge, first piece: acts, words, digests, the counter
def br_lf (st n : Int32) : Int32 := if st = 0 then (-1) else n
def br_sim (r : Int32) : FS → MS
  | (f, p, a, st, n, _) => (f, p, (if p = 0 then (-7) else r), br_lf st n, a)
def br_G (k0 : Int32) (F : FS) : Prop := F.2.2.2.2.2 = k0 ∧ (¬ F.2.2.2.1 = 0 → ¬ F.2.2.2.2.1 < 0) ∧ zbOk F.1
theorem br_Gi {k0 : Int32} {f : RW} {p a st n k : Int32} (h : br_G k0 (f, p, a, st, n, k)) : k = k0 ∧ (¬ st = 0 → ¬ n < 0) ∧ zbOk f := h
theorem br_simE {f : RW} {p a st n k r : Int32} (h : p = 0 → r = -7) : br_sim r (f, p, a, st, n, k) = (f, p, r, br_lf st n, a) := by
  rw [br_sim]
  by_cases hp : p = 0
  · rw [if_pos hp, h hp]
  · rw [if_neg hp]
theorem br_tear {f : RW} {p a st n k r : Int32} (h : ¬ st = 0 → ¬ n < 0) :
    (∃ s1 n1, z_tear (f, p, a, st, n, k) = (0, f, p, a + 1, s1, n1, k) ∧ y_whole (f, p, r, br_lf st n, a) = (1, f, p, r, br_lf s1 n1, a + 1) ∧ (¬ s1 = 0 → ¬ n1 < 0)) ∨
    (∃ n1, z_tear (f, p, a, st, n, k) = (1, f, 0, a + 1, 0, n1, k) ∧ y_whole (f, p, r, br_lf st n, a) = (0, f, 0, -7, -1, a + 1)) := by
  by_cases h1 : st = 0
  · refine Or.inl ⟨st, n, ?_, ?_, h⟩
    · rw [z_tear, if_pos h1]
    · have e : br_lf st n = -1 := if_pos h1
      rw [e, y_whole, if_neg (by decide), if_pos (by decide)]
  · have e : br_lf st n = n := if_neg h1
    obtain ⟨j, hj, hn⟩ := nI_of (h h1)
    by_cases h2 : j = 0
    · have h3 : n = 0 := by rw [hn, h2]; decide
      refine Or.inr ⟨n, ?_, ?_⟩
      · rw [z_tear, if_neg h1, if_pos (by rw [h3]; decide)]
      · rw [e, y_whole, if_pos h3]
    · have h3 : ¬ n = 0 := by rw [hn]; exact nI_ne0 (by omega) hj
      have h4 : ¬ n ≤ 0 := by rw [hn]; exact nI_nle (by omega) hj
      refine Or.inl ⟨st, n - 1, ?_, ?_, ?_⟩
      · rw [z_tear, if_neg h1, if_neg h4]
      · have e2 : br_lf st (n - 1) = n - 1 := if_neg h1
        rw [e, e2, y_whole, if_neg h3, if_neg h4]
      · intro _
        have h5 : nI j - 1 = nI (j - 1) := pk_sub (a := j) (b := 1) (by omega)
        rw [hn, h5]
        exact nI_pos (by omega)
theorem br_prog {r k0 x : Int32} {F : FS} {i : Nat} (hG : br_G k0 F) (hi : i < 768) : y_prog k0 i x (br_sim r F) = br_sim r (z_prog (nI i) x F) ∧ br_G k0 (z_prog (nI i) x F) := by
  obtain ⟨f, p, a, st, n, k⟩ := F
  obtain ⟨hk, h1, h2⟩ := br_Gi hG
  by_cases hp : p = 0
  · have e : z_prog (nI i) x (f, p, a, st, n, k) = (f, p, a, st, n, k) := by rw [z_prog, if_pos hp]
    rw [e, br_sim, y_prog, if_pos hp]
    exact ⟨rfl, hk, h1, h2⟩
  · have h768 : nI i < (768 : Int32) := nI_lt (a := i) (b := 768) hi (by decide)
    have e : z_prog (nI i) x (f, p, a, st, n, k) = z_prog2 (nI i) x (z_tear (f, p, a, st, n, k)) := by rw [z_prog, if_neg hp, if_neg (nI_pos (by omega)), if_pos h768]
    have hi2 : (nI i).toNatClampNeg = i := nI_clamp (by omega)
    have e2 : br_sim r (f, p, a, st, n, k) = (f, p, r, br_lf st n, a) := br_simE (fun h => absurd h hp)
    have e3 : y_prog k0 i x (f, p, r, br_lf st n, a) = y_prog2 k0 i x f (y_whole (f, p, r, br_lf st n, a)) := by rw [y_prog, if_neg hp]
    rw [e, e2, e3]
    rcases br_tear (f := f) (p := p) (a := a) (k := k) (r := r) h1 with ⟨s1, n1, q1, q2, q3⟩ | ⟨n1, q1, q2⟩
    · have e4 : z_prog2 (nI i) x (0, f, p, a + 1, s1, n1, k) = (upd f i (f i &&& x), p, a + 1, s1, n1, k) := by rw [z_prog2, hi2, if_pos rfl]
      have e5 : y_prog2 k0 i x f (1, f, p, r, br_lf s1 n1, a + 1) = (upd f i (f i &&& x), p, r, br_lf s1 n1, a + 1) := by rw [y_prog2, if_neg (by decide)]
      rw [q1, q2, e4, e5]
      exact ⟨(br_simE (fun h => absurd h hp)).symm, hk, q3, zbOk_and h2 hi x⟩
    · have e4 : z_prog2 (nI i) x (1, f, 0, a + 1, 0, n1, k) = (upd f i (f i &&& (x ||| k)), 0, a + 1, 0, n1, k) := by rw [z_prog2, hi2, if_neg (by decide)]
      have e5 : y_prog2 k0 i x f (0, f, 0, -7, -1, a + 1) = (upd f i (f i &&& (x ||| k0)), 0, -7, -1, a + 1) := by rw [y_prog2, if_pos rfl]
      rw [q1, q2, e4, e5, hk]
      exact ⟨rfl, rfl, fun h => absurd rfl h, zbOk_and h2 hi _⟩
theorem br_erase {r k0 : Int32} {F : FS} {pg : Nat} (hG : br_G k0 F) : y_erase k0 pg (br_sim r F) = br_sim r (z_erase pg F) ∧ br_G k0 (z_erase pg F) := by
  obtain ⟨f, p, a, st, n, k⟩ := F
  obtain ⟨hk, h1, h2⟩ := br_Gi hG
  by_cases hp : p = 0
  · have e : z_erase pg (f, p, a, st, n, k) = (f, p, a, st, n, k) := by rw [z_erase, if_pos hp]
    rw [e, br_sim, y_erase, if_pos hp]
    exact ⟨rfl, hk, h1, h2⟩
  · have e : z_erase pg (f, p, a, st, n, k) = z_erase2 pg (z_tear (f, p, a, st, n, k)) := by rw [z_erase, if_neg hp]
    have e2 : br_sim r (f, p, a, st, n, k) = (f, p, r, br_lf st n, a) := br_simE (fun h => absurd h hp)
    have e3 : y_erase k0 pg (f, p, r, br_lf st n, a) = y_erase2 k0 pg (y_whole (f, p, r, br_lf st n, a)) := by rw [y_erase, if_neg hp]
    rw [e, e2, e3]
    rcases br_tear (f := f) (p := p) (a := a) (k := k) (r := r) h1 with ⟨s1, n1, q1, q2, q3⟩ | ⟨n1, q1, q2⟩
    · have e4 : z_erase2 pg (0, f, p, a + 1, s1, n1, k) = (z_fill f (pg * 32) (32 : Int32).toNatClampNeg, p, a + 1, s1, n1, k) := by rw [z_erase2, z_cntT rfl]
      have e5 : y_erase2 k0 pg (1, f, p, r, br_lf s1 n1, a + 1) = (z_fill f (pg * 32) (32 : Int32).toNatClampNeg, p, r, br_lf s1 n1, a + 1) := by rw [y_erase2, y_cntF (by decide), Nat.mul_comm]
      rw [q1, q2, e4, e5]
      exact ⟨(br_simE (fun h => absurd h hp)).symm, hk, q3, zbOk_fill h2 _ _⟩
    · have e4 : z_erase2 pg (1, f, 0, a + 1, 0, n1, k) = (z_fill f (pg * 32) (k - k / 32 * 32).toNatClampNeg, 0, a + 1, 0, n1, k) := by rw [z_erase2, z_cntF (by decide)]
      have e5 : y_erase2 k0 pg (0, f, 0, -7, -1, a + 1) = (z_fill f (pg * 32) (k0 - k0 / 32 * 32).toNatClampNeg, 0, -7, -1, a + 1) := by rw [y_erase2, y_cntT rfl, Nat.mul_comm]
      rw [q1, q2, e4, e5, hk]
      exact ⟨rfl, rfl, fun h => absurd rfl h, zbOk_fill h2 _ _⟩
theorem br_rowN {r k0 : Int32} {F : FS} {b : Nat} {row row' : RW} (hG : br_G k0 F) : ∀ n, b + n ≤ 768 → (∀ j, j < n → row j = row' j) → y_rowN k0 b row' (br_sim r F) n = br_sim r (z_rowN F (nI b) row n) ∧ br_G k0 (z_rowN F (nI b) row n) := by
  intro n
  induction n with
  | zero => intro _ _; exact ⟨rfl, hG⟩
  | succ n ih =>
    intro hb h
    obtain ⟨e1, g1⟩ := ih (by omega) (fun j hj => h j (by omega))
    have e2 := br_prog (r := r) (x := row n) (i := b + n) g1 (by omega)
    rw [y_rowN, z_rowN, e1, nI_add, ← h n (by omega)]
    exact e2
theorem br_row {r k0 b0 len0 : Int32} {F : FS} {b len rl : Nat} {row row' : RW} (hG : br_G k0 F) (hb0 : b0 = nI b) (hl0 : len0 = nI len) (hl : len ≤ rl) (hl2 : len ≤ 300) (hb : b + len ≤ 768) (h : ∀ j, j < len → row j = row' j) : y_rowN k0 b row' (br_sim r F) len = br_sim r (z_row b0 row rl len0 F) ∧ br_G k0 (z_row b0 row rl len0 F) := by
  rw [hb0, hl0, z_row, nI_clamp (by omega), Nat.min_eq_left hl]
  exact br_rowN hG len hb h
theorem br_eUp {r k0 : Int32} {F : FS} {fp : Nat} (hG : br_G k0 F) : ∀ n, y_eUpN k0 fp (br_sim r F) n = br_sim r (z_eImgN fp F n) ∧ br_G k0 (z_eImgN fp F n) := by
  intro n
  induction n with
  | zero => exact ⟨rfl, hG⟩
  | succ n ih =>
    obtain ⟨e1, g1⟩ := ih
    rw [y_eUpN, z_eImgN, e1]
    exact br_erase g1
theorem br_eSt (F : FS) : ∀ n, z_eStN F n = z_eImgN 14 F n := by
  intro n
  induction n with
  | zero => rfl
  | succ n ih => rw [z_eStN, z_eImgN, ih]
theorem br_ssh {w : Nat} (x : BitVec w) (k : Nat) (hk : k + 8 ≤ w) : (x.sshiftRight k).toNat % 2 ^ 8 = (x.toNat >>> k) % 2 ^ 8 := by
  apply Nat.eq_of_testBit_eq
  intro i
  rw [Nat.testBit_mod_two_pow, Nat.testBit_mod_two_pow, Nat.testBit_shiftRight]
  by_cases h : i < 8
  · have h1 : (x.sshiftRight k).toNat.testBit i = (x.sshiftRight k).getLsbD i := rfl
    have h2 : x.toNat.testBit (k + i) = x.getLsbD (k + i) := rfl
    rw [h1, h2, BitVec.getLsbD_sshiftRight, if_pos (by omega)]
    have h3 : ¬ w ≤ i := by omega
    simp [h3]
  · simp [h]
theorem br_part (w : Int32) (i : Nat) (hi : i < 4) : z_bow w (nI i) = y_part w (nI i) := by
  have h1 : ∀ q : Nat, q < 4 → (((24 - 8 * nI q : Int32).toUInt32 &&& Int32.toUInt32 31).toBitVec % 32).toNat = 24 - 8 * q := by decide
  have h2 : ∀ q : Nat, q < 4 → (((24 - 8 * nI q : Int32) &&& 31).toBitVec.smod 32).toNat = 24 - 8 * q := by decide
  have a : (zushr w (24 - 8 * nI i)).toBitVec.toNat = w.toBitVec.toNat / 2 ^ (24 - 8 * i) := pk_ushr w (24 - 8 * nI i) (24 - 8 * i) (h1 i hi)
  have b : (w >>> ((24 - 8 * nI i) &&& 31)).toBitVec.toNat = (w.toBitVec.sshiftRight (24 - 8 * i)).toNat := by
    show (w.toBitVec.sshiftRight' (((24 - 8 * nI i : Int32) &&& 31).toBitVec.smod 32)).toNat = _
    rw [BitVec.sshiftRight_eq', h2 i hi]
  have c1 : z_bow w (nI i) = nI ((zushr w (24 - 8 * nI i)).toBitVec.toNat % 2 ^ 8) := pk_and _ 8 (by decide)
  have c2 : y_part w (nI i) = nI ((w >>> ((24 - 8 * nI i) &&& 31)).toBitVec.toNat % 2 ^ 8) := pk_and _ 8 (by decide)
  rw [c1, c2, a, b, br_ssh _ _ (by omega), Nat.shiftRight_eq_div_pow]
theorem br_tbyte (x : Int64) (m : Nat) (hm : m < 8) : z_tbyte x m = y_tbyte x m := by
  have h1 : ∀ q : Nat, q < 8 → (((nI (8 * q)).toInt64.toUInt64 &&& Int64.toUInt64 63).toBitVec % 64).toNat = 8 * q := by decide
  have h2 : ∀ q : Nat, q < 8 → (((nI (8 * q)).toInt64 &&& 63).toBitVec.smod 64).toNat = 8 * q := by decide
  have e1 : (Int64.toInt32 (zlushr x (nI (8 * m)))).toBitVec.toNat = (x.toBitVec.toNat >>> (8 * m)) % 2 ^ 32 := by
    rw [Int64.toBitVec_toInt32, BitVec.signExtend_eq_setWidth_of_le _ (by decide), BitVec.toNat_setWidth]
    have h3 : (zlushr x (nI (8 * m))).toBitVec = x.toBitVec >>> (((nI (8 * m)).toInt64.toUInt64 &&& Int64.toUInt64 63).toBitVec % 64) := rfl
    rw [h3, BitVec.ushiftRight_eq', BitVec.toNat_ushiftRight, h1 m hm]
  have e2 : (Int64.toInt32 (zlshr x (nI (8 * m)))).toBitVec.toNat = (x.toBitVec.sshiftRight (8 * m)).toNat % 2 ^ 32 := by
    rw [Int64.toBitVec_toInt32, BitVec.signExtend_eq_setWidth_of_le _ (by decide), BitVec.toNat_setWidth]
    have h3 : (zlshr x (nI (8 * m))).toBitVec = x.toBitVec.sshiftRight' (((nI (8 * m)).toInt64 &&& 63).toBitVec.smod 64) := rfl
    rw [h3, BitVec.sshiftRight_eq', h2 m hm]
  have c1 : z_tbyte x m = nI ((Int64.toInt32 (zlushr x (nI (8 * m)))).toBitVec.toNat % 2 ^ 8) := pk_and _ 8 (by decide)
  have c2 : y_tbyte x m = nI ((Int64.toInt32 (zlshr x (nI (8 * m)))).toBitVec.toNat % 2 ^ 8) := by
    rw [y_tbyte, Int64.toInt32_and, show Int64.toInt32 255 = 255 by decide]
    exact pk_and _ 8 (by decide)
  rw [c1, c2, e1, e2, Nat.mod_mod_of_dvd _ (by decide), Nat.mod_mod_of_dvd _ (by decide), br_ssh _ _ (by omega)]
def br_sh (x y : Int32) : Int32 := (x <<< (8 &&& 31)) ||| y
def br_w4 (x0 x1 x2 x3 : Int32) : Int32 := br_sh (br_sh (br_sh (br_sh 0 x0) x1) x2) x3
theorem br_or4 (x0 x1 x2 x3 : Int32) : br_w4 x0 x1 x2 x3 = x0 <<< (24 &&& 31) ||| x1 <<< (16 &&& 31) ||| x2 <<< (8 &&& 31) ||| x3 := by
  have h8 : ((8 &&& 31 : Int32).toBitVec.smod 32).toNat = 8 := by decide
  have h16 : ((16 &&& 31 : Int32).toBitVec.smod 32).toNat = 16 := by decide
  have h24 : ((24 &&& 31 : Int32).toBitVec.smod 32).toNat = 24 := by decide
  apply Int32.toBitVec_inj.mp
  simp only [br_w4, br_sh, Int32.toBitVec_or, Int32.toBitVec_shiftLeft, BitVec.shiftLeft_eq', h8, h16, h24, BitVec.shiftLeft_or_distrib, ← BitVec.shiftLeft_add]
  have h0 : (0 : Int32).toBitVec = 0#32 := rfl
  rw [h0]
  simp
theorem br_word {f : RW} {b : Nat} (h : b + 4 ≤ 768) : z_word f (nI b) = y_four f b := by
  have e : ∀ i, i < 4 → z_at f (nI b + nI i) = f (b + i) := fun i hi => by rw [nI_add]; exact z_atIn (by omega)
  have e0 : z_word f (nI b) = br_w4 (z_at f (nI b + nI 0)) (z_at f (nI b + nI 1)) (z_at f (nI b + nI 2)) (z_at f (nI b + nI 3)) := rfl
  rw [e0, e 0 (by omega), e 1 (by omega), e 2 (by omega), e 3 (by omega)]
  exact br_or4 _ _ _ _
theorem br_mword {ob f : RW} {b c : Nat} (h : ∀ i, i < 4 → ob (b + i) = f (c + i)) : z_mword ob b = y_four f c := by
  have e0 : z_mword ob b = br_w4 (ob (b + 0)) (ob (b + 1)) (ob (b + 2)) (ob (b + 3)) := rfl
  rw [e0, h 0 (by omega), h 1 (by omega), h 2 (by omega), h 3 (by omega)]
  exact br_or4 _ _ _ _
theorem br_mf {ob f tb : RW} {t : Int32} {b : Nat} (h : ∀ i, i < 4 → ob (b + i) = y_mb t f tb (b + i)) : z_mword ob b = y_mf t f tb b := by
  have e0 : z_mword ob b = br_w4 (ob (b + 0)) (ob (b + 1)) (ob (b + 2)) (ob (b + 3)) := rfl
  have e1 : y_mf t f tb b = br_w4 (y_mb t f tb (b + 0)) (y_mb t f tb (b + 1)) (y_mb t f tb (b + 2)) (y_mb t f tb (b + 3)) := rfl
  rw [e0, e1, h 0 (by omega), h 1 (by omega), h 2 (by omega), h 3 (by omega)]
theorem br_digN {f : RW} {b : Nat} : ∀ n, b + n ≤ 768 → z_digN f (nI b) n = y_digN f b n := by
  intro n
  induction n with
  | zero => intro _; rfl
  | succ n ih => intro h; rw [z_digN, y_digN, ih (by omega), nI_add, z_atIn (by omega)]
theorem br_rdig {d : Int32} {row row' : RW} : ∀ n, (∀ j, j < n → row j = row' j) → z_rdigN d row n = z_rdigN d row' n := by
  intro n
  induction n with
  | zero => intro _; rfl
  | succ n ih => intro h; rw [z_rdigN, z_rdigN, ih (fun j hj => h j (by omega)), h n (by omega)]
theorem br_dig {d : Int32} {row row' : RW} {rl n : Nat} (hn : n ≤ rl) (hn2 : n < 2 ^ 31) (h : ∀ j, j < n → row j = row' j) : z_dig d row rl (nI n) = z_rdigN d row' n := by
  rw [z_dig, nI_clamp hn2, Nat.min_eq_left hn]
  exact br_rdig n h
-- the counter
def br_bn (m : Nat) : Nat := (z_bc (nI m)).toNatClampNeg
def br_lw (m : Nat) : Nat := (nI m &&& (nI m - 1)).toNatClampNeg
set_option maxRecDepth 100000 in
theorem br_tab : ∀ m, m < 256 → z_bc (nI m) = nI (br_bn m) ∧ y_ones (nI m) = nI (br_bn m) ∧ br_bn m ≤ 8 ∧ (br_bn m = 0 → m = 0) := by decide +kernel
set_option maxRecDepth 100000 in
theorem br_tab2 : ∀ m, m < 256 → nI m &&& (nI m - 1) = nI (br_lw m) ∧ y_less (nI m) = nI (br_lw m) ∧ br_lw m < 256 ∧ nI m &&& nI (br_lw m) = nI (br_lw m) ∧ (m ≠ 0 → br_bn (br_lw m) + 1 = br_bn m) := by decide +kernel
def br_zc (f : RW) : Nat → Nat
  | 0 => 0
  | i + 1 => br_zc f i + (8 - br_bn (zb f (704 + i)))
def br_C (f : RW) : Nat := br_zc f 32
theorem br_zc_le (f : RW) : ∀ i, br_zc f i ≤ 8 * i := by
  intro i
  induction i with
  | zero => exact Nat.le_refl 0
  | succ i ih => rw [br_zc]; omega
theorem br_cntN {f : RW} (hB : zbOk f) : ∀ i, i ≤ 32 → z_cntN f i = nI (br_zc f i) ∧ y_cvN f i = nI (256 - 8 * i + br_zc f i) := by
  intro i
  induction i with
  | zero => intro _; exact ⟨rfl, rfl⟩
  | succ i ih =>
    intro hi
    obtain ⟨e1, e2⟩ := ih (by omega)
    obtain ⟨b1, b2⟩ := hB (704 + i) (by omega)
    obtain ⟨t1, t2, t3, -⟩ := br_tab _ b2
    have hz := br_zc_le f i
    have a1 : z_at f (nI (704 + i)) = nI (zb f (704 + i)) := z_atB hB (by omega)
    have a2 : (8 : Int32) - nI (br_bn (zb f (704 + i))) = nI (8 - br_bn (zb f (704 + i))) := pk_sub (a := 8) t3
    constructor
    · rw [z_cntN, e1, a1, t1, a2, nI_add, br_zc]
    · rw [y_cvN, e2, b1, t2, pk_sub (by omega), br_zc]
      congr 1
      omega
theorem br_cv {f : RW} (hB : zbOk f) : z_cntr f = nI (br_C f) ∧ y_cv f = nI (br_C f) ∧ br_C f ≤ 256 := by
  obtain ⟨e1, e2⟩ := br_cntN hB 32 (by omega)
  refine ⟨e1, ?_, br_zc_le f 32⟩
  rw [y_cv, e2]
  congr 1
  show 256 - 8 * 32 + br_zc f 32 = br_zc f 32
  omega
theorem br_cve {f : RW} (hB : zbOk f) : z_cntr f = y_cv f := by rw [(br_cv hB).1, (br_cv hB).2.1]
