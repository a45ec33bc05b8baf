-- the reference's methods as plain functions: each as its bytecode branches
abbrev MS : Type := RW × Int32 × Int32 × Int32 × Int32
def y_whole : MS → Int32 × MS
  | (f, p, r, lf, a) => if lf = 0 then (0, f, 0, -7, -1, a + 1) else (1, f, p, r, (if lf ≤ 0 then lf else lf - 1), a + 1)
def y_cnt (t k : Int32) : Int32 := if t = 0 then k - k / 32 * 32 else 32
def y_erase2 (k : Int32) (pg : Nat) : Int32 × MS → MS
  | (t, f, p, r, lf, a) => (z_fill f (32 * pg) (y_cnt t k).toNatClampNeg, p, r, lf, a)
def y_erase (k : Int32) (pg : Nat) : MS → MS
  | (f, p, r, lf, a) => if p = 0 then (f, p, r, lf, a) else y_erase2 k pg (y_whole (f, p, r, lf, a))
def y_prog2 (k : Int32) (i : Nat) (x : Int32) (f0 : RW) : Int32 × MS → MS
  | (t, f, p, r, lf, a) => (upd f i (f0 i &&& (if t = 0 then x ||| k else x)), p, r, lf, a)
def y_prog (k : Int32) (i : Nat) (x : Int32) : MS → MS
  | (f, p, r, lf, a) => if p = 0 then (f, p, r, lf, a) else y_prog2 k i x f (y_whole (f, p, r, lf, a))
def y_digN (f : RW) (b : Nat) : Nat → Int32
  | 0 => 0
  | i + 1 => z_digB (y_digN f b i) (f (b + i))
def y_four (f : RW) (b : Nat) : Int32 := f b <<< (24 &&& 31) ||| f (b + 1) <<< (16 &&& 31) ||| f (b + 2) <<< (8 &&& 31) ||| f (b + 3)
def y_part (x y : Int32) : Int32 := x >>> ((24 - 8 * y) &&& 31) &&& 255
def y_onesN (b : Int32) : Nat → Int32
  | 0 => 0
  | i + 1 => y_onesN b i + (b >>> (nI i &&& 31) &&& 1)
def y_ones (b : Int32) : Int32 := y_onesN b 8
def y_cvN (f : RW) : Nat → Int32
  | 0 => 256
  | i + 1 => y_cvN f i - y_ones (f (704 + i))
def y_cv (f : RW) : Int32 := y_cvN f 32
def y_good (f : RW) (x : Nat) : Int32 :=
  if f (224 * x + 192 + 8) = 0 then (if f (224 * x + 192) < 1 then 0 else if 192 < f (224 * x + 192) then 0 else
    if y_digN f (224 * x) (zb f (224 * x + 192)) = y_four f (224 * x + 192 + 2) then (if f (224 * x + 192 + 1) < y_cv f then 0 else 1) else 0) else 0
def y_conf (f : RW) (x : Nat) : Int32 := if f (224 * x + 192 + 7) = 0 then 1 else 0
def y_lowN (b : Int32) : Nat → Nat → Nat
  | 0, j => j
  | d + 1, j => if b &&& nI (2 ^ j) = 0 then y_lowN b d (j + 1) else j
def y_less2 (b : Int32) (j : Nat) : Int32 := b &&& (nI (2 ^ j) ^^^ (-1)) &&& 255
def y_less (b : Int32) : Int32 := y_less2 b (y_lowN b 8 0)
def y_tbyte (x : Int64) (m : Nat) : Int32 := Int64.toInt32 (zlshr x (nI (8 * m)) &&& 255)
def y_addN (x : Int64) : Nat → RW → Nat → RW
  | 0, tb, _ => tb
  | m + 1, tb, t => y_addN x m (upd tb t (y_tbyte x m)) (t + 1)
def y_type (x : Int64) (y : Int32) : RW × Nat → Int32 × RW × Nat
  | (tb, tl) => if y < 1 then (-1, tb, tl) else if y ≤ 8 then (if tl + y.toNatClampNeg ≤ 192 then (nI (tl + y.toNatClampNeg), y_addN x y.toNatClampNeg tb tl, tl + y.toNatClampNeg) else (-8, tb, tl)) else (-1, tb, tl)
def y_rowN (k : Int32) (b : Nat) (row : RW) (F : MS) : Nat → MS
  | 0 => F
  | i + 1 => y_prog k (b + i) (row i) (y_rowN k b row F i)
def y_eUpN (k : Int32) (b : Nat) (F : MS) : Nat → MS
  | 0 => F
  | i + 1 => y_erase k (b + i) (y_eUpN k b F i)
def y_pwN (k : Int32) (x : Nat) (d : Int32) (F : MS) : Nat → MS
  | 0 => F
  | i + 1 => y_prog k (224 * x + 192 + 2 + i) (y_part d (nI i)) (y_pwN k x d F i)
def y_wh (k : Int32) (x : Nat) (len seq d : Int32) (F : MS) : MS := y_pwN k x d (y_prog k (224 * x + 192 + 1) seq (y_prog k (224 * x + 192) len F)) 4
def y_fin (z : Int32) : MS → Int32 × RW × Int32 × Int32 × Int32 × Int32 × Nat
  | (f, p, r, lf, a) => (if p = 0 then -2 else z, f, p, r, lf, a, 0)
def y_fact (k x : Int32) (tb : RW) (tl : Nat) (F : MS) : MS :=
  y_prog k (224 * 0 + 192 + 8) 0 (y_prog k (224 * 0 + 192 + 7) 0 (y_wh k 0 (nI tl) x (z_rdigN 0 tb tl) (y_rowN k 0 tb (y_erase k 22 (y_eUpN k 0 F 7)) tl)))
def y_factory (k x : Int32) (tb : RW) (tl : Nat) : MS → Int32 × RW × Int32 × Int32 × Int32 × Int32 × Nat
  | (f, p, r, lf, a) => if p = 0 then (-2, f, p, r, lf, a, tl) else if x < 1 then (-1, f, p, r, lf, a, tl) else if 200 < x then (-1, f, p, r, lf, a, tl) else
      if 1 ≤ tl then y_fin 1 (y_fact k x tb tl (f, p, -7, lf, a)) else (-1, f, p, r, lf, a, tl)
def y_mb (t : Int32) (f tb : RW) (x : Nat) : Int32 := if t = 0 then f (640 + x) else tb x
def y_mfN (t : Int32) (f tb : RW) (x : Nat) : Nat → Int32
  | 0 => 0
  | i + 1 => (y_mfN t f tb x i <<< (8 &&& 31)) ||| y_mb t f tb (x + i)
def y_mf (t : Int32) (f tb : RW) (x : Nat) : Int32 := y_mfN t f tb x 4
def y_isIn (x y z : Int32) : Int32 := if x < y then 0 else if z < x then 0 else 1
def y_rng (t : Int32) (f tb : RW) : Int32 := if y_isIn (y_mb t f tb 1) 1 200 = 0 then 0 else if y_isIn (y_mb t f tb 6) 1 192 = 0 then 0 else if y_isIn (y_mb t f tb 11) 1 192 = 0 then 0 else 1
def y_mdN (t : Int32) (f tb : RW) (d0 : Int32) : Nat → Int32
  | 0 => d0
  | i + 1 => z_digB (y_mdN t f tb d0 i) (y_mb t f tb i)
def y_tag (t : Int32) (ke : RW) (ve : Int32) (f tb : RW) : Int32 := if y_mdN t f tb (z_rdigN 0 ke 8) 16 = y_mf t f tb 16 then (if y_mb t f tb 0 = ve then 1 else 0) else 0
def y_right (ke : RW) (ve : Int32) (f tb : RW) : Int32 := if y_rng 0 f tb = 0 then 0 else if y_tag 0 ke ve f tb = 0 then 0 else 1
def y_old (t : Int32) (f tb : RW) (r : Int32) : Int32 := if y_mb t f tb 1 ≤ y_cv f then 1 else if r = -7 then 1 else if f (224 * r.toNatClampNeg + 192 + 1) < y_mb t f tb 1 then 0 else 1
def y_sameN (f tb : RW) : Nat → Int32
  | 0 => 1
  | i + 1 => if y_sameN f tb i = 0 then 0 else if f (640 + i) = tb i then 1 else 0
def y_man (k : Int32) (tb : RW) (F : MS) : MS := y_rowN k 640 tb (y_eUpN k 14 (y_erase k 20 (y_erase k 21 F)) 6) 20
def y_manifest (ke : RW) (ve k : Int32) (tb : RW) (tl : Nat) : MS → Int32 × RW × Int32 × Int32 × Int32 × Int32 × Nat
  | (f, p, r, lf, a) => if p = 0 then (-2, f, p, r, lf, a, tl) else if tl = 20 then (if y_rng 1 f tb = 0 then (-1, f, p, r, lf, a, 0) else if y_tag 1 ke ve f tb = 0 then (-4, f, p, r, lf, a, 0) else
      if y_old 1 f tb r = 0 then (if y_sameN f tb 20 = 0 then y_fin 0 (y_man k tb (f, p, r, lf, a)) else (1, f, p, r, lf, a, 0)) else (-3, f, p, r, lf, a, 0)) else (-1, f, p, r, lf, a, 0)
def y_blks (f : RW) : Int32 := (f 646 + 15) / 16
def y_many (f : RW) (j : Nat) : Nat := if y_blks f ≤ nI (j + 1) then zb f 646 - 16 * j else 16
def y_blk (k : Int32) (tb : RW) (j m : Nat) (F : MS) : MS := y_prog k (672 + j) 0 (y_rowN k (448 + 16 * j) tb F m)
def y_block (ke : RW) (ve k x : Int32) (tb : RW) (tl : Nat) : MS → Int32 × RW × Int32 × Int32 × Int32 × Int32 × Nat
  | (f, p, r, lf, a) => if p = 0 then (-2, f, p, r, lf, a, tl) else if y_right ke ve f tb = 0 then (-1, f, p, r, lf, a, tl) else if x < 0 then (-1, f, p, r, lf, a, tl) else
      if x < y_blks f then (if tl = y_many f x.toNatClampNeg then (if f (672 + x.toNatClampNeg) = 0 then (0, f, p, r, lf, a, 0) else y_fin 1 (y_blk k tb x.toNatClampNeg (y_many f x.toNatClampNeg) (f, p, r, lf, a))) else (-1, f, p, r, lf, a, tl)) else (-1, f, p, r, lf, a, tl)
def y_add (b : Int32) : RW × Nat → RW × Nat
  | (im, md) => if 192 ≤ md then (im, md + 1) else (upd im md b, md + 1)
def y_adN (f : RW) (b : Nat) (P : RW × Nat) : Nat → RW × Nat
  | 0 => P
  | i + 1 => y_add (f (b + i)) (y_adN f b P i)
def y_patN (f : RW) (bs bl : Nat) : Nat → Nat → RW × Nat → Int32 × RW × Nat
  | 0, _, (im, md) => (0, im, md)
  | g + 1, i, (im, md) => if zb f 646 ≤ i then (if nI md = f 651 then (1, im, md) else (0, im, md)) else
      if zb f (448 + i) < 128 then (if i + 1 + zb f (448 + i) + 1 ≤ zb f 646 then y_patN f bs bl g (i + zb f (448 + i) + 2) (y_adN f (448 + i + 1) (im, md) (zb f (448 + i) + 1)) else (0, im, md))
      else (if i + 2 ≤ zb f 646 then (if zb f (448 + i + 1) + zb f (448 + i) - 127 ≤ bl then y_patN f bs bl g (i + 2) (y_adN f (bs + zb f (448 + i + 1)) (im, md) (zb f (448 + i) - 127)) else (0, im, md)) else (0, im, md))
def y_pat (f : RW) (bs bl : Nat) (im : RW) : Int32 × RW × Nat := y_patN f bs bl (zb f 646 + 1) 0 (im, 0)
def y_stgN (f : RW) : Nat → Nat → Int32
  | 0, _ => 1
  | d + 1, i => if f (672 + i) = 0 then y_stgN f d (i + 1) else 0
def y_stgd (f : RW) : Int32 := y_stgN f (y_blks f).toNatClampNeg 0
def y_upd (k : Int32) (x md : Nat) (seq d : Int32) (im : RW) (F : MS) : MS :=
  y_erase k 20 (y_prog k (224 * x + 192 + 8) 0 (y_prog k (224 * x + 192 + 6) 15 (y_wh k x (nI md) seq d (y_rowN k (224 * x) im (y_eUpN k (7 * x) (y_erase k (7 * x + 6) F) 6) md))))
def y_ins4 (im : RW) (md : Nat) : MS → Int32 × RW × Int32 × Int32 × Int32 × Int32 × RW × Nat
  | (f, p, r, lf, a) => (if p = 0 then -2 else 1, f, p, r, lf, a, im, md)
def y_ins3 (k : Int32) (j : Nat) : MS → Int32 × RW × Nat → Int32 × RW × Int32 × Int32 × Int32 × Int32 × RW × Nat
  | (f, p, r, lf, a), (t, im, md) => if t = 0 then (-6, f, p, r, lf, a, im, md) else
      if z_rdigN 0 im md = y_four f 652 then y_ins4 im md (y_upd k (1 - j) md (f 641) (z_rdigN 0 im md) im (f, p, r, lf, a)) else (-6, f, p, r, lf, a, im, md)
def y_mk (j : Nat) (f : RW) : RW × Nat → Int32 × RW × Nat
  | (im, md) => if y_digN f 448 (zb f 646) = y_four f 647 then
      (if y_four f 642 = 0 then y_pat f (224 * j) 0 im else if y_four f 642 = y_four f (224 * j + 192 + 2) then y_pat f (224 * j) (zb f (224 * j + 192)) im else (0, im, md)) else (0, im, md)
def y_install (ke : RW) (ve k : Int32) (tb im : RW) (md : Nat) : MS → Int32 × RW × Int32 × Int32 × Int32 × Int32 × RW × Nat
  | (f, p, r, lf, a) => if p = 0 then (-2, f, p, r, lf, a, im, md) else if y_right ke ve f tb = 0 then (-7, f, p, r, lf, a, im, md) else if y_old 0 f tb r = 0 then
      (if y_stgd f = 0 then (-5, f, p, r, lf, a, im, md) else y_ins3 k r.toNatClampNeg (f, p, r, lf, a) (y_mk r.toNatClampNeg f (im, md))) else (-3, f, p, r, lf, a, im, md)
def y_may (t : Int32) (f : RW) (x : Nat) : Int32 := if y_good f x = 0 then 0 else if y_conf f x = t then (if t = 0 then (if f (224 * x + 192 + 6) = 0 then 0 else 1) else 1) else 0
def y_bestN (t : Int32) (f : RW) : Nat → Int32
  | 0 => -7
  | i + 1 => if y_may t f i = 0 then y_bestN t f i else if y_bestN t f i = -7 then nI i else if f (224 * i + 192 + 1) ≤ f (224 * (y_bestN t f i).toNatClampNeg + 192 + 1) then y_bestN t f i else nI i
def y_best (t : Int32) (f : RW) : Int32 := y_bestN t f 2
def y_boot2 (w : Int32) : MS → Int32 × RW × Int32 × Int32 × Int32 × Int32
  | (f, p, _, lf, a) => if p = 0 then (-2, f, p, -7, lf, a) else (w, f, p, w, lf, a)
def y_boot (k : Int32) : MS → Int32 × RW × Int32 × Int32 × Int32 × Int32
  | (f, _, _, lf, a) => if y_best 0 f = -7 then (y_best 1 f, f, 1, y_best 1 f, lf, a) else
      y_boot2 (y_best 0 f) (y_prog k (224 * (y_best 0 f).toNatClampNeg + 192 + 6) (y_less (f (224 * (y_best 0 f).toNatClampNeg + 192 + 6))) (f, 1, -7, lf, a))
def y_cfI (k s : Int32) (j : Nat) : Nat → MS → MS
  | 0, F => F
  | d + 1, F => if F.2.1 = 0 then F else if F.1 j = 0 then F else if s ≤ y_cv F.1 then F else y_cfI k s j d (y_prog k j (y_less (F.1 j)) F)
def y_cfO (k s : Int32) : Nat → Nat → MS → MS
  | 0, _, F => F
  | d + 1, j, F => y_cfO k s d (j + 1) (y_cfI k s j 257 F)
def y_conf3 : MS → Int32 × RW × Int32 × Int32 × Int32 × Int32
  | (f, p, r, lf, a) => (if p = 0 then -2 else 1, f, p, r, lf, a)
def y_confirm (k : Int32) : MS → Int32 × RW × Int32 × Int32 × Int32 × Int32
  | (f, p, r, lf, a) => if p = 0 then (-2, f, p, r, lf, a) else if r = -7 then (-7, f, p, r, lf, a) else if y_conf f r.toNatClampNeg = 0 then
      y_conf3 (y_cfO k (f (224 * r.toNatClampNeg + 192 + 1)) 32 704 (y_prog k (224 * r.toNatClampNeg + 192 + 7) 0 (f, p, r, lf, a))) else (0, f, p, r, lf, a)
def y_crash (x y lf k : Int32) : Int32 × Int32 × Int32 := if y < 0 then (-1, lf, k) else if y ≤ 255 then (if 0 ≤ x then (1, x, y) else (1, -1, y)) else (-1, lf, k)
def y_byte (f : RW) (x : Int32) : Int32 := if x < 0 then (-1) else if x ≤ 767 then f x.toNatClampNeg else (-1)
def y_goodF (f : RW) (x : Int32) : Int32 := if x < 0 then (-1) else if x ≤ 1 then (if y_good f x.toNatClampNeg = 0 then 0 else 1) else (-1)
theorem y_rem (k : Int32) : (k - k / 32 * 32).toNatClampNeg ≤ 32 := Nat.le_succ_of_le (z_rem32 k)
theorem y_cntT {t k : Int32} (h : t = 0) : y_cnt t k = k - k / 32 * 32 := by rw [y_cnt, if_pos h]
theorem y_cntF {t k : Int32} (h : ¬ t = 0) : y_cnt t k = 32 := by rw [y_cnt, if_neg h]
theorem y_dec8 (m : Nat) : nI (8 * (m + 1)) - 8 = nI (8 * m) := by
  rw [show 8 * (m + 1) = 8 * m + 8 by omega]
  exact (z_sub1 (a := 8 * m + 8) (b := 8) (by omega)).trans (by rw [Nat.add_sub_cancel])
theorem y_pw8 : ∀ j, j ≤ 8 → (256 : Int32) ≤ nI (2 ^ j) → j = 8 := by decide
theorem y_pw7 : ∀ j, j ≤ 8 → ¬ (256 : Int32) ≤ nI (2 ^ j) → j < 8 := by decide
theorem y_dbl (j : Nat) : 2 * nI (2 ^ j) = nI (2 ^ (j + 1)) := by
  rw [Nat.pow_succ, Nat.mul_comm (2 ^ j) 2]
  exact pk_mul 2 (2 ^ j)
theorem y_lenOf {f : RW} {i : Nat} (h1 : ¬ f i < 1) (h2 : ¬ 192 < f i) : f i = nI (zb f i) ∧ 1 ≤ zb f i ∧ zb f i ≤ 192 := by
  obtain ⟨j, h3, h4, h5⟩ := z_natOf (m := 192) (n := 192) rfl (by decide) h1 (Int32.not_lt.mp h2)
  have h6 : zb f i = j := by rw [zb, h5, nI_clamp (by omega)]
  rw [h6]
  exact ⟨h5, h3, h4⟩
theorem y_isIn0 {x z : Int32} (h : ¬ y_isIn x 1 z = 0) : ¬ x < 1 ∧ ¬ z < x := by
  rw [y_isIn] at h
  split at h
  · exact absurd rfl h
  · split at h
    · exact absurd rfl h
    · exact ⟨by assumption, by assumption⟩
theorem y_right0 {ke f tb : RW} {ve : Int32} (h : ¬ y_right ke ve f tb = 0) : ¬ y_rng 0 f tb = 0 := by
  intro h1
  rw [y_right, if_pos h1] at h
  exact h rfl
theorem y_rng6 {f tb : RW} (h : ¬ y_rng 0 f tb = 0) : (f 646 = nI (zb f 646) ∧ 1 ≤ zb f 646 ∧ zb f 646 ≤ 192) ∧ (f 651 = nI (zb f 651) ∧ 1 ≤ zb f 651 ∧ zb f 651 ≤ 192) := by
  rw [y_rng] at h
  split at h
  · exact absurd rfl h
  · split at h
    · exact absurd rfl h
    · split at h
      · exact absurd rfl h
      · rename_i h1 h2 h3
        obtain ⟨a1, a2⟩ := y_isIn0 h2
        obtain ⟨b1, b2⟩ := y_isIn0 h3
        rw [y_mb, if_pos rfl] at a1 a2 b1 b2
        exact ⟨y_lenOf a1 a2, y_lenOf b1 b2⟩
theorem y_blksN {f : RW} (h : f 646 = nI (zb f 646)) (h2 : zb f 646 ≤ 255) : y_blks f = nI ((zb f 646 + 15) / 16) := by
  rw [y_blks, h]
  have h3 : nI (zb f 646) + 15 = nI (zb f 646 + 15) := nI_add _ 15
  rw [h3]
  exact pk_div (a := zb f 646 + 15) (d := 16) (by omega) (by decide) (by decide)
theorem y_blksC {f : RW} (h : f 646 = nI (zb f 646)) (h2 : zb f 646 ≤ 255) : (y_blks f).toNatClampNeg ≤ 16 := by
  rw [y_blksN h h2, nI_clamp (by omega)]
  omega
theorem y_natOf0 {x m : Int32} {n : Nat} (hm : m = nI n) (hn : n < 2 ^ 31) (h1 : ¬ x < 0) (h2 : x < m) : ∃ j : Nat, j < n ∧ x = nI j := by
  subst hm
  rw [Int32.lt_iff_toInt_lt] at h1 h2
  rw [nI_toInt hn] at h2
  have h0 : (0 : Int32).toInt = 0 := rfl
  refine ⟨x.toNatClampNeg, ?_, ?_⟩
  · unfold Int32.toNatClampNeg; omega
  · apply Int32.toInt_inj.mp
    rw [nI_toInt (by unfold Int32.toNatClampNeg; omega)]
    unfold Int32.toNatClampNeg; omega
theorem y_blkIx {ke f tb : RW} {ve x : Int32} (h : ¬ y_right ke ve f tb = 0) (h1 : ¬ x < 0) (h2 : x < y_blks f) : ∃ j : Nat, j < 12 ∧ 16 * j < zb f 646 ∧ x = nI j := by
  obtain ⟨⟨a1, a2, a3⟩, -⟩ := y_rng6 (y_right0 h)
  rw [y_blksN a1 (by omega)] at h2
  obtain ⟨j, h3, h4⟩ := y_natOf0 (n := (zb f 646 + 15) / 16) rfl (by omega) h1 h2
  exact ⟨j, by omega, by omega, h4⟩
theorem y_vp767 {x : Int32} (h1 : ¬ x < 0) (h2 : x ≤ 767) : vp_in x 768 := by
  rw [vp_in_iff]
  rw [Int32.lt_iff_toInt_lt] at h1
  rw [Int32.le_iff_toInt_le] at h2
  have h0 : (0 : Int32).toInt = 0 := rfl
  have h3 : (767 : Int32).toInt = 767 := rfl
  omega
theorem y_nat01 {x : Int32} (h1 : ¬ x < 0) (h2 : x ≤ 1) : ∃ j : Nat, j < 2 ∧ x = nI j := by
  refine y_natOf0 (n := 2) (m := 2) rfl (by decide) h1 ?_
  rw [Int32.le_iff_toInt_le] at h2
  rw [Int32.lt_iff_toInt_lt]
  have h0 : (1 : Int32).toInt = 1 := rfl
  have h3 : (2 : Int32).toInt = 2 := rfl
  omega
theorem y_old_r {t r : Int32} {f tb : RW} (h : y_old t f tb r = 0) : ¬ r = -7 := by
  intro h1
  rw [y_old] at h
  split at h
  · exact absurd h (by decide)
  · first | exact absurd h (by decide) | (rw [if_pos h1] at h; exact absurd h (by decide))
theorem y_best_val (t : Int32) (f : RW) : ∀ i, y_bestN t f i = -7 ∨ ∃ j : Nat, j < i ∧ y_bestN t f i = nI j := by
  intro i
  induction i with
  | zero => exact Or.inl rfl
  | succ i ih =>
    have ih2 : y_bestN t f i = -7 ∨ ∃ j : Nat, j < i + 1 ∧ y_bestN t f i = nI j := by
      rcases ih with h | ⟨j, h1, h2⟩
      · exact Or.inl h
      · exact Or.inr ⟨j, by omega, h2⟩
    rw [y_bestN]
    repeat' split
    · exact ih2
    · exact Or.inr ⟨i, by omega, rfl⟩
    · exact ih2
    · exact Or.inr ⟨i, by omega, rfl⟩
theorem y_best_nat {t : Int32} {f : RW} {i : Nat} (h : ¬ y_bestN t f i = -7) : ∃ j : Nat, j < i ∧ y_bestN t f i = nI j := (y_best_val t f i).resolve_left h
theorem y_addL {b : Int32} {im im1 : RW} {md md1 : Nat} (h : (im1, md1) = y_add b (im, md)) : md1 = md + 1 := by
  rw [y_add] at h
  split at h <;> (cases h; rfl)
theorem y_adL {f : RW} {b : Nat} {P : RW × Nat} : ∀ i, (y_adN f b P i).2 = P.2 + i := by
  intro i
  induction i with
  | zero => rfl
  | succ i ih =>
    rw [y_adN]
    have h : y_add (f (b + i)) (y_adN f b P i) = y_add (f (b + i)) ((y_adN f b P i).1, (y_adN f b P i).2) := rfl
    have h2 := y_addL (b := f (b + i)) (im := (y_adN f b P i).1) (md := (y_adN f b P i).2) (im1 := (y_add (f (b + i)) (y_adN f b P i)).1) (md1 := (y_add (f (b + i)) (y_adN f b P i)).2) rfl
    rw [h2, ih]
    omega
theorem y_patN1 {f : RW} {bs bl : Nat} : ∀ (g i md md1 : Nat) (im im1 : RW) (t : Int32), (t, im1, md1) = y_patN f bs bl g i (im, md) → ¬ t = 0 → nI md1 = f 651 := by
  intro g
  induction g with
  | zero =>
    intro i md md1 im im1 t h ht
    rw [y_patN] at h
    cases h
    exact absurd rfl ht
  | succ g ih =>
    intro i md md1 im im1 t h ht
    rw [y_patN] at h
    generalize y_adN f (448 + i + 1) (im, md) (zb f (448 + i) + 1) = X at h
    generalize y_adN f (bs + zb f (448 + i + 1)) (im, md) (zb f (448 + i) - 127) = Y at h
    obtain ⟨X1, X2⟩ := X
    obtain ⟨Y1, Y2⟩ := Y
    split at h
    · split at h
      · cases h; assumption
      · cases h; exact absurd rfl ht
    · split at h
      · split at h
        · exact ih _ _ _ _ _ _ h ht
        · cases h; exact absurd rfl ht
      · split at h
        · split at h
          · exact ih _ _ _ _ _ _ h ht
          · cases h; exact absurd rfl ht
        · cases h; exact absurd rfl ht
theorem y_patL {f : RW} {bs bl : Nat} (hB : zbOk f) : ∀ (g i md md1 : Nat) (im im1 : RW) (t : Int32), (t, im1, md1) = y_patN f bs bl g i (im, md) → md ≤ 128 * i → i ≤ 600 → md1 ≤ 200000 := by
  intro g
  induction g with
  | zero =>
    intro i md md1 im im1 t h h1 h2
    rw [y_patN] at h
    cases h
    omega
  | succ g ih =>
    intro i md md1 im im1 t h h1 h2
    have hs := (hB 646 (by omega)).2
    rw [y_patN] at h
    have hX := y_adL (f := f) (b := 448 + i + 1) (P := (im, md)) (zb f (448 + i) + 1)
    have hY := y_adL (f := f) (b := bs + zb f (448 + i + 1)) (P := (im, md)) (zb f (448 + i) - 127)
    generalize y_adN f (448 + i + 1) (im, md) (zb f (448 + i) + 1) = X at h hX
    generalize y_adN f (bs + zb f (448 + i + 1)) (im, md) (zb f (448 + i) - 127) = Y at h hY
    obtain ⟨X1, X2⟩ := X
    obtain ⟨Y1, Y2⟩ := Y
    have hX : X2 = md + (zb f (448 + i) + 1) := hX
    have hY : Y2 = md + (zb f (448 + i) - 127) := hY
    by_cases h5 : zb f 646 ≤ i
    · rw [if_pos h5] at h
      split at h <;> (cases h; omega)
    · rw [if_neg h5] at h
      have hb := (hB (448 + i) (by omega)).2
      split at h
      · split at h
        · exact ih _ _ _ _ _ _ h (by omega) (by omega)
        · cases h; omega
      · split at h
        · split at h
          · exact ih _ _ _ _ _ _ h (by omega) (by omega)
          · cases h; omega
        · cases h; omega
theorem y_patI {f : RW} {bs bl md1 : Nat} {im im1 : RW} {t : Int32} (hB : zbOk f) (h : (t, im1, md1) = y_pat f bs bl im) : md1 ≤ 200000 := y_patL hB _ _ _ _ _ _ _ h (by omega) (by omega)
theorem y_pat1 {f : RW} {bs bl md1 : Nat} {im im1 : RW} {t : Int32} (hB : zbOk f) (h : (t, im1, md1) = y_pat f bs bl im) (ht : ¬ t = 0) (h2 : f 651 = nI (zb f 651)) (h3 : zb f 651 ≤ 192) : md1 ≤ 192 := by
  have h4 := y_patI hB h
  have h5 := y_patN1 _ _ _ _ _ _ _ h ht
  rw [h2] at h5
  rw [(nI_eq (by omega) (by omega)).mp h5]
  exact h3
theorem y_andB {n : Nat} (h : n < 256) (x : Int32) : ∃ m : Nat, m ≤ n ∧ nI n &&& x = nI m := by
  have h1 : (nI n &&& x).toBitVec.toNat ≤ n := by
    rw [Int32.toBitVec_and, BitVec.toNat_and, pk_tn (by omega)]
    exact Nat.and_le_left
  refine ⟨(nI n &&& x).toBitVec.toNat, h1, ?_⟩
  apply Int32.toBitVec_inj.mp
  apply BitVec.eq_of_toNat_eq
  rw [pk_tn (by omega)]
theorem zbOk_upd {f : RW} {i m : Nat} {x : Int32} (h : zbOk f) (hm : m < 256) (hx : x = nI m) : zbOk (upd f i x) := by
  intro j hj
  have h1 : upd f i x j = if j = i then x else f j := rfl
  by_cases hji : j = i
  · have h2 : upd f i x j = nI m := by rw [h1, if_pos hji, hx]
    have h3 : zb (upd f i x) j = m := by rw [zb, h2, nI_clamp (by omega)]
    rw [h3]
    exact ⟨h2, hm⟩
  · have h2 : upd f i x j = f j := by rw [h1, if_neg hji]
    have h3 : zb (upd f i x) j = zb f j := by rw [zb, h2, zb]
    rw [h3, h2]
    exact h j hj
theorem zbOk_fill {f : RW} (h : zbOk f) (b : Nat) : ∀ n, zbOk (z_fill f b n) := by
  intro n
  induction n with
  | zero => exact h
  | succ n ih => exact zbOk_upd (m := 255) ih (by decide) rfl
theorem zbOk_and {f : RW} {i : Nat} (h : zbOk f) (hi : i < 768) (x : Int32) : zbOk (upd f i (f i &&& x)) := by
  obtain ⟨m, h1, h2⟩ := y_andB (h i hi).2 x
  refine zbOk_upd (m := m) h (by have := (h i hi).2; omega) ?_
  rw [← h2, ← (h i hi).1]
theorem y_wholeF {f f1 : RW} {p p1 r r1 lf lf1 a a1 t : Int32} (h : (t, f1, p1, r1, lf1, a1) = y_whole (f, p, r, lf, a)) : f1 = f ∧ ((t = 0 ∧ p1 = 0 ∧ r1 = -7) ∨ (t = 1 ∧ p1 = p ∧ r1 = r)) := by
  rw [y_whole] at h
  split at h
  · cases h; exact ⟨rfl, Or.inl ⟨rfl, rfl, rfl⟩⟩
  · cases h; exact ⟨rfl, Or.inr ⟨rfl, rfl, rfl⟩⟩
theorem y_prog_cases {k x : Int32} {i : Nat} {f f1 : RW} {p p1 r r1 lf lf1 a a1 : Int32} (h : (f1, p1, r1, lf1, a1) = y_prog k i x (f, p, r, lf, a)) : (p = 0 ∧ f1 = f ∧ p1 = p ∧ r1 = r) ∨ (¬ p = 0 ∧ ((f1 = upd f i (f i &&& (x ||| k)) ∧ p1 = 0 ∧ r1 = -7) ∨ (f1 = upd f i (f i &&& x) ∧ p1 = p ∧ r1 = r))) := by
  rw [y_prog] at h
  split at h
  · cases h; exact Or.inl ⟨by assumption, rfl, rfl, rfl⟩
  · refine Or.inr ⟨by assumption, ?_⟩
    generalize hu : y_whole (f, p, r, lf, a) = u at h
    obtain ⟨t, f2, p2, r2, l2, a2⟩ := u
    obtain ⟨h1, h2⟩ := y_wholeF hu.symm
    rw [y_prog2] at h
    cases h
    rcases h2 with ⟨h3, h4, h5⟩ | ⟨h3, h4, h5⟩
    · rw [if_pos h3, h1]; exact Or.inl ⟨rfl, h4, h5⟩
    · rw [if_neg (by rw [h3]; decide), h1]; exact Or.inr ⟨rfl, h4, h5⟩
theorem y_prog_ok {k x : Int32} {i : Nat} {f f1 : RW} {p p1 r r1 lf lf1 a a1 : Int32} (hB : zbOk f) (h : (f1, p1, r1, lf1, a1) = y_prog k i x (f, p, r, lf, a)) (hi : i < 768) : zbOk f1 := by
  rcases y_prog_cases h with ⟨-, h1, -⟩ | ⟨-, ⟨h1, -⟩ | ⟨h1, -⟩⟩
  · rw [h1]; exact hB
  · rw [h1]; exact zbOk_and hB hi _
  · rw [h1]; exact zbOk_and hB hi _
theorem y_less_lt : ∀ n, n < 256 → n ≠ 0 → (nI n &&& y_less (nI n)).toNatClampNeg < n := by decide +kernel
def y_meas (i : Nat) (F : MS) : Nat := if F.2.1 = 0 then 0 else zb F.1 i + 1
theorem y_meas_le {i : Nat} {f : RW} {p r lf a : Int32} (hB : zbOk f) (hi : i < 768) : y_meas i (f, p, r, lf, a) + 1 ≤ 257 := by
  have h := (hB i hi).2
  unfold y_meas
  split
  · omega
  · show zb f i + 1 + 1 ≤ 257
    omega
theorem y_meas_dec {k : Int32} {i e : Nat} {f f1 : RW} {p p1 r r1 lf lf1 a a1 : Int32} (hB : zbOk f) (hi : i < 768) (hp : ¬ p = 0) (hf : ¬ f i = 0) (h : (f1, p1, r1, lf1, a1) = y_prog k i (y_less (f i)) (f, p, r, lf, a)) (hm : y_meas i (f, p, r, lf, a) + 1 ≤ e + 1) : y_meas i (f1, p1, r1, lf1, a1) + 1 ≤ e := by
  have h0 : y_meas i (f, p, r, lf, a) = zb f i + 1 := by unfold y_meas; exact if_neg hp
  rw [h0] at hm
  obtain ⟨h5, h6⟩ := hB i hi
  have hz : zb f i ≠ 0 := by
    intro h7
    rw [h7] at h5
    exact hf h5
  rcases y_prog_cases h with ⟨h1, -⟩ | ⟨-, ⟨h1, h2, -⟩ | ⟨h1, h2, -⟩⟩
  · exact absurd h1 hp
  · have h8 : y_meas i (f1, p1, r1, lf1, a1) = 0 := by unfold y_meas; exact if_pos h2
    rw [h8]
    omega
  · have h8 : y_meas i (f1, p1, r1, lf1, a1) = zb f1 i + 1 := by unfold y_meas; exact if_neg (by rw [h2]; exact hp)
    have h9 : zb f1 i < zb f i := by
      have h10 : f1 i = f i &&& y_less (f i) := by rw [h1]; exact if_pos rfl
      have h11 : zb f1 i = (nI (zb f i) &&& y_less (nI (zb f i))).toNatClampNeg := by rw [← h5, ← h10]; rfl
      rw [h11]
      exact y_less_lt _ h6 hz
    rw [h8]
    omega
abbrev rm_X6_isWhole : Room := { frames := 0, cells := 0, slots := 0, locals := 0 }
set_option maxRecDepth 20000 in
theorem qX6_isWhole_1 : (Cond.fieldLink RX6 39 "FlashBootModel" "acts" "I" : Cond) ∈ wsX6_isWhole := List.mem_of_getElem? (i := 1) rfl
set_option maxRecDepth 20000 in
theorem iX6_isWhole_X6 : ∀ w ∈ wsX60, w ∈ wsX6_isWhole := by decide +kernel
set_option maxRecDepth 20000 in
theorem qX6_isWhole_2 : (Cond.fieldLink RX6 27 "FlashBootModel" "left" "I" : Cond) ∈ wsX6_isWhole := List.mem_of_getElem? (i := 2) rfl
set_option maxRecDepth 20000 in
theorem qX6_isWhole_3 : (Cond.fieldLink RX6 19 "FlashBootModel" "power" "Z" : Cond) ∈ wsX6_isWhole := List.mem_of_getElem? (i := 3) rfl
set_option maxRecDepth 20000 in
theorem qX6_isWhole_4 : (Cond.fieldLink RX6 23 "FlashBootModel" "runs" "I" : Cond) ∈ wsX6_isWhole := List.mem_of_getElem? (i := 4) rfl
set_option maxHeartbeats 4000000 in
set_option maxRecDepth 100000 in
theorem k_X6_isWhole (l : Launch) (D : va_G) (cI : ClassId) (am : Nat → Nat) (ke : RW) (ve : Int32) (f : RW) (tb : RW) (tl : Nat) (p : Int32) (r : Int32) (lf : Int32) (k : Int32) (a : Int32) (im : RW) (md : Nat)   : zMW (S := Int32 × RW × Int32 × Int32 × Int32 × Int32) l D cI yX6_isWhole wsX6_isWhole rm_X6_isWhole [.ref (am 0)] (mW cI am ke ve f tb tl p r lf k a im md) (y_whole (f, p, r, lf, a)) (fun u => some (.int u.1)) (fun u => mW cI am ke ve u.2.1 tb tl u.2.2.1 u.2.2.2.1 u.2.2.2.2.1 k u.2.2.2.2.2 im md) := by
  refine zEntW (cc := cX6_isWhole) (maxL := 1) (ret := (some .boolean)) (own := RX6) (lvs := [(0, .ref (am 0))]) (by decide) rfl rfl (Nat.le_of_ble_eq_true rfl) rfl ?_
  intro p0 e s m args below meth c Q ls A hx hb hml hts hown hP hK hN hD hS hA hl hret hretV
  refine lv_aload_n hx hb dX6_isWhole_0 rfl (lv_at hl 0 rfl) ?_
  refine lv_dup hx hb dX6_isWhole_1 rfl ?_
  refine va_get (D := D) (ci := 6) (v := .int a) (C := RX6) (T := TX6) (N := 13) hx hb hts iX6_isWhole_X6 hown hK hP 0 rfl rfl 10 (by decide) (hts _ qX6_isWhole_1) (fun _ h9 => h9) rfl dX6_isWhole_2 ?_
  refine lv_iconst (v := 1) hx hb dX6_isWhole_5 (by decide) ?_
  refine lv_iadd hx hb dX6_isWhole_6 ?_
  refine va_put (D := D) (ci := 6) (v := .int (a + 1)) (ty := .int) (C := RX6) (T := TX6) (N := 13) hx hb hts iX6_isWhole_X6 tyX6 tyX6_ok nmX6 hown hK hP hD hS 0 rfl rfl 10 (by decide) (hts _ qX6_isWhole_1) (fun _ h9 => h9) rfl (by decide +kernel) rfl rfl (Nat.le_of_ble_eq_true rfl) dX6_isWhole_7 (fun H locs hP hD hS => ?_)
  have hP : va_P D vwCl (mW cI am ke ve f tb tl p r lf k (a + 1) im md) _ := hP
  have hD : va_D A (mW cI am ke ve f tb tl p r lf k (a + 1) im md) := hD
  refine lv_aload_n hx hb dX6_isWhole_10 rfl (lv_at hl 0 rfl) ?_
  refine va_get (D := D) (ci := 6) (v := .int lf) (C := RX6) (T := TX6) (N := 13) hx hb hts iX6_isWhole_X6 hown hK hP 0 rfl rfl 8 (by decide) (hts _ qX6_isWhole_2) (fun _ h9 => h9) rfl dX6_isWhole_11 ?_
  refine lv_if_eq (tgt := 43) hx hb dX6_isWhole_14 (by decide) (fun c_14 => ?_) (fun c_14 => ?_)
  · -- 14 t
    refine lv_aload_n hx hb dX6_isWhole_43 rfl (lv_at hl 0 rfl) ?_
    refine lv_iconst (v := (-1)) hx hb dX6_isWhole_44 (by decide) ?_
    refine va_put (D := D) (ci := 6) (v := .int (-1)) (ty := .int) (C := RX6) (T := TX6) (N := 13) hx hb hts iX6_isWhole_X6 tyX6 tyX6_ok nmX6 hown hK hP hD hS 0 rfl rfl 8 (by decide) (hts _ qX6_isWhole_2) (fun _ h9 => h9) rfl (by decide +kernel) rfl rfl (Nat.le_of_ble_eq_true rfl) dX6_isWhole_45 (fun H locs hP hD hS => ?_)
    have hP : va_P D vwCl (mW cI am ke ve f tb tl p r (-1) k (a + 1) im md) _ := hP
    have hD : va_D A (mW cI am ke ve f tb tl p r (-1) k (a + 1) im md) := hD
    refine lv_aload_n hx hb dX6_isWhole_48 rfl (lv_at hl 0 rfl) ?_
    refine lv_iconst (v := 0) hx hb dX6_isWhole_49 (by decide) ?_
    refine va_put (D := D) (ci := 6) (v := .int 0) (ty := .boolean) (C := RX6) (T := TX6) (N := 13) hx hb hts iX6_isWhole_X6 tyX6 tyX6_ok nmX6 hown hK hP hD hS 0 rfl rfl 6 (by decide) (hts _ qX6_isWhole_3) (fun _ h9 => h9) rfl (by decide +kernel) rfl rfl (Nat.le_of_ble_eq_true rfl) dX6_isWhole_50 (fun H locs hP hD hS => ?_)
    have hP : va_P D vwCl (mW cI am ke ve f tb tl 0 r (-1) k (a + 1) im md) _ := hP
    have hD : va_D A (mW cI am ke ve f tb tl 0 r (-1) k (a + 1) im md) := hD
    refine lv_aload_n hx hb dX6_isWhole_53 rfl (lv_at hl 0 rfl) ?_
    refine lv_bipush (v := (-7)) hx hb dX6_isWhole_54 (by decide) ?_
    refine va_put (D := D) (ci := 6) (v := .int (-7)) (ty := .int) (C := RX6) (T := TX6) (N := 13) hx hb hts iX6_isWhole_X6 tyX6 tyX6_ok nmX6 hown hK hP hD hS 0 rfl rfl 7 (by decide) (hts _ qX6_isWhole_4) (fun _ h9 => h9) rfl (by decide +kernel) rfl rfl (Nat.le_of_ble_eq_true rfl) dX6_isWhole_56 (fun H locs hP hD hS => ?_)
    have hP : va_P D vwCl (mW cI am ke ve f tb tl 0 (-7) (-1) k (a + 1) im md) _ := hP
    have hD : va_D A (mW cI am ke ve f tb tl 0 (-7) (-1) k (a + 1) im md) := hD
    refine lv_iconst (v := 0) hx hb dX6_isWhole_59 (by decide) ?_
    exact hret 60 ls _ _ (0, f, 0, (-7), (-1), a + 1) 0 _ dX6_isWhole_60 rfl rfl rfl (by simp only [y_whole, if_pos c_14]) hP hS
  · -- 14 f
    refine lv_aload_n hx hb dX6_isWhole_17 rfl (lv_at hl 0 rfl) ?_
    refine lv_aload_n hx hb dX6_isWhole_18 rfl (lv_at hl 0 rfl) ?_
    refine va_get (D := D) (ci := 6) (v := .int lf) (C := RX6) (T := TX6) (N := 13) hx hb hts iX6_isWhole_X6 hown hK hP 0 rfl rfl 8 (by decide) (hts _ qX6_isWhole_2) (fun _ h9 => h9) rfl dX6_isWhole_19 ?_
    refine lv_if_le (tgt := 34) hx hb dX6_isWhole_22 (by decide) (fun c_22 => ?_) (fun c_22 => ?_)
    · -- 22 t
      refine lv_aload_n hx hb dX6_isWhole_34 rfl (lv_at hl 0 rfl) ?_
      refine va_get (D := D) (ci := 6) (v := .int lf) (C := RX6) (T := TX6) (N := 13) hx hb hts iX6_isWhole_X6 hown hK hP 0 rfl rfl 8 (by decide) (hts _ qX6_isWhole_2) (fun _ h9 => h9) rfl dX6_isWhole_35 ?_
      refine va_put (D := D) (ci := 6) (v := .int lf) (ty := .int) (C := RX6) (T := TX6) (N := 13) hx hb hts iX6_isWhole_X6 tyX6 tyX6_ok nmX6 hown hK hP hD hS 0 rfl rfl 8 (by decide) (hts _ qX6_isWhole_2) (fun _ h9 => h9) rfl (by decide +kernel) rfl rfl (Nat.le_of_ble_eq_true rfl) dX6_isWhole_38 (fun H locs hP hD hS => ?_)
      have hP : va_P D vwCl (mW cI am ke ve f tb tl p r lf k (a + 1) im md) _ := hP
      have hD : va_D A (mW cI am ke ve f tb tl p r lf k (a + 1) im md) := hD
      refine lv_iconst (v := 1) hx hb dX6_isWhole_41 (by decide) ?_
      exact hret 42 ls _ _ (1, f, p, r, lf, a + 1) 1 _ dX6_isWhole_42 rfl rfl rfl (by simp only [y_whole, if_neg c_14, if_pos c_22]) hP hS
    · -- 22 f
      refine lv_aload_n hx hb dX6_isWhole_25 rfl (lv_at hl 0 rfl) ?_
      refine va_get (D := D) (ci := 6) (v := .int lf) (C := RX6) (T := TX6) (N := 13) hx hb hts iX6_isWhole_X6 hown hK hP 0 rfl rfl 8 (by decide) (hts _ qX6_isWhole_2) (fun _ h9 => h9) rfl dX6_isWhole_26 ?_
      refine lv_iconst (v := 1) hx hb dX6_isWhole_29 (by decide) ?_
      refine lv_isub hx hb dX6_isWhole_30 ?_
      refine lv_goto (tgt := 38) hx hb dX6_isWhole_31 (by decide) ?_
      refine va_put (D := D) (ci := 6) (v := .int (lf - 1)) (ty := .int) (C := RX6) (T := TX6) (N := 13) hx hb hts iX6_isWhole_X6 tyX6 tyX6_ok nmX6 hown hK hP hD hS 0 rfl rfl 8 (by decide) (hts _ qX6_isWhole_2) (fun _ h9 => h9) rfl (by decide +kernel) rfl rfl (Nat.le_of_ble_eq_true rfl) dX6_isWhole_38 (fun H locs hP hD hS => ?_)
      have hP : va_P D vwCl (mW cI am ke ve f tb tl p r (lf - 1) k (a + 1) im md) _ := hP
      have hD : va_D A (mW cI am ke ve f tb tl p r (lf - 1) k (a + 1) im md) := hD
      refine lv_iconst (v := 1) hx hb dX6_isWhole_41 (by decide) ?_
      exact hret 42 ls _ _ (1, f, p, r, lf - 1, a + 1) 1 _ dX6_isWhole_42 rfl rfl rfl (by simp only [y_whole, if_neg c_14, if_neg c_22]) hP hS
abbrev rm_X6_erase : Room := { frames := 1, cells := 0, slots := 0, locals := 20 }
set_option maxRecDepth 20000 in
theorem qX6_erase_1 : (Cond.fieldLink RX6 19 "FlashBootModel" "power" "Z" : Cond) ∈ wsX6_erase := List.mem_of_getElem? (i := 1) rfl
set_option maxRecDepth 20000 in
theorem iX6_erase_X6 : ∀ w ∈ wsX60, w ∈ wsX6_erase := by decide +kernel
set_option maxRecDepth 20000 in
theorem qX6_erase_2 : (Cond.fieldLink RX6 46 "FlashBootModel" "mask" "I" : Cond) ∈ wsX6_erase := List.mem_of_getElem? (i := 2) rfl
set_option maxRecDepth 20000 in
theorem qX6_erase_3 : (Cond.fieldLink RX6 7 "FlashBootModel" "flash" "[I" : Cond) ∈ wsX6_erase := List.mem_of_getElem? (i := 3) rfl
set_option maxHeartbeats 4000000 in
set_option maxRecDepth 100000 in
theorem k_X6_erase (l : Launch) (D : va_G) (cI : ClassId) (am : Nat → Nat) (ke : RW) (ve : Int32) (f : RW) (tb : RW) (tl : Nat) (p : Int32) (r : Int32) (lf : Int32) (k : Int32) (a : Int32) (im : RW) (md : Nat) (pg : Nat) (hpg : pg < 24) : zMW (S := RW × Int32 × Int32 × Int32 × Int32) l D cI yX6_erase wsX6_erase rm_X6_erase [.ref (am 0), .int (nI pg)] (mW cI am ke ve f tb tl p r lf k a im md) (y_erase k pg (f, p, r, lf, a)) (fun _ => none) (fun u => mW cI am ke ve u.1 tb tl u.2.1 u.2.2.1 u.2.2.2.1 k u.2.2.2.2 im md) := by
  refine zEntW (cc := cX6_erase) (maxL := 4) (ret := none) (own := RX6) (lvs := [(0, .ref (am 0)), (1, .int (nI pg))]) (by decide) rfl rfl (Nat.le_of_ble_eq_true rfl) rfl ?_
  intro p0 e s m args below meth c Q ls A hx hb hml hts hown hP hK hN hD hS hA hl hret hretV
  refine lv_aload_n hx hb dX6_erase_0 rfl (lv_at hl 0 rfl) ?_
  refine va_get (D := D) (ci := 6) (v := .int p) (C := RX6) (T := TX6) (N := 13) hx hb hts iX6_erase_X6 hown hK hP 0 rfl rfl 6 (by decide) (hts _ qX6_erase_1) (fun _ h9 => h9) rfl dX6_erase_1 ?_
  refine lv_if_eq (tgt := 54) hx hb dX6_erase_4 (by decide) (fun c_4 => ?_) (fun c_4 => ?_)
  · -- 4 t
    exact hretV 54 ls _ _ (f, p, r, lf, a) dX6_erase_54 rfl rfl (by simp only [y_erase, if_pos c_4]) hP hS
  · -- 4 f
    refine lv_aload_n hx hb dX6_erase_7 rfl (lv_at hl 0 rfl) ?_
    refine zVW (ws' := fun u => mW cI am ke ve u.2.1 tb tl u.2.2.1 u.2.2.2.1 u.2.2.2.2.1 k u.2.2.2.2.2 im md) (As := []) (rest := []) ⟨hx, hb, hml, hown, hts⟩ (k_X6_isWhole l D cI am ke ve f tb tl p r lf k a im md) (cwV 0 hts gX6_erase_X6_isWhole rfl rfl rfl (by decide +kernel) ⟨Nat.le_of_ble_eq_true rfl, Nat.le_of_ble_eq_true rfl⟩) hP hK hN hD hS hA [0, 1, 2, 3, 4] [] [] rfl (by decide) rfl (fun _ => rfl) (fun _ => rfl) (fun _ => rfl) rfl (va_recv hK hP (ci := 6) (q0 := 0) rfl rfl) rfl hl.1 rfl (Nat.le_of_ble_eq_true rfl) dX6_erase_8 ⟨Nat.zero_le _, Nat.zero_le _⟩ (fun u_8 H locs hu_8 hP hD hS => ?_)
    obtain ⟨res_8, f_8, p_8, r_8, lf_8, a_8⟩ := u_8
    have hP : va_P D vwCl (mW cI am ke ve f_8 tb tl p_8 r_8 lf_8 k a_8 im md) _ := hP
    have hD : va_D A (mW cI am ke ve f_8 tb tl p_8 r_8 lf_8 k a_8 im md) := hD
    refine W.eq (g2 := F0 m 11 ls [.int res_8]) rfl ?_
    refine lv_if_eq (tgt := 19) hx hb dX6_erase_11 (by decide) (fun c_11 => ?_) (fun c_11 => ?_)
    · -- 11 t
      refine lv_aload_n hx hb dX6_erase_19 rfl (lv_at hl 0 rfl) ?_
      refine va_get (D := D) (ci := 6) (v := .int k) (C := RX6) (T := TX6) (N := 13) hx hb hts iX6_erase_X6 hown hK hP 0 rfl rfl 9 (by decide) (hts _ qX6_erase_2) (fun _ h9 => h9) rfl dX6_erase_20 ?_
      refine lv_bipush (v := 32) hx hb dX6_erase_23 (by decide) ?_
      refine lv_irem hx hb dX6_erase_25 (by decide) ?_
      refine lv_istore_n (lv' := [(2, .int (k - k / 32 * 32)), (0, .ref (am 0)), (1, .int (nI pg))]) hx hb dX6_erase_26 rfl hl (by decide) rfl (fun ls hl => ?_)
      refine lv_iconst (v := 0) hx hb dX6_erase_27 (by decide) ?_
      refine lv_istore_n (lv' := [(3, .int 0), (2, .int (k - k / 32 * 32)), (0, .ref (am 0)), (1, .int (nI pg))]) hx hb dX6_erase_28 rfl hl (by decide) rfl (fun ls hl => ?_)
      have lp_29 : ∀ (g_29 : Nat) (i : Nat) (H : Heap) (locs : List Loc) (ls : Array Slot), i ≤ (k - k / 32 * 32).toNatClampNeg → (k - k / 32 * 32).toNatClampNeg ≤ 32 → (k - k / 32 * 32).toNatClampNeg - i < g_29 → va_P D vwCl (mW cI am ke ve (z_fill f_8 (32 * pg) i) tb tl p_8 r_8 lf_8 k a_8 im md) H → va_D A (mW cI am ke ve (z_fill f_8 (32 * pg) i) tb tl p_8 r_8 lf_8 k a_8 im md) → va_S A s.heap H locs → lv_has ls 4 [(0, .ref (am 0)), (1, .int (nI pg)), (2, .int (k - k / 32 * 32)), (3, .int (nI i))] → W p0 l e rm_X6_erase s m args below meth c H locs 0 0 Q (F0 m 29 ls []) := by
        intro g_29
        induction g_29 with
        | zero => intro i H locs ls h1 h2 h9_29; exact absurd h9_29 (Nat.not_lt_zero _)
        | succ g_29 ih_29 =>
          intro i H locs ls h1 h2 h9_29 hP hD hS hl
          refine lv_iload_n hx hb dX6_erase_29 rfl (lv_at hl 3 rfl) ?_
          refine lv_iload_n hx hb dX6_erase_30 rfl (lv_at hl 2 rfl) ?_
          refine z_icmp_geC (tgt := 54) hx hb dX6_erase_31 (by decide) i rfl (by omega) (fun c_31 => ?_) (fun c_31 => ?_)
          · -- 31 t
            have e9 : i = (k - k / 32 * 32).toNatClampNeg := by omega
            exact hretV 54 ls _ _ (z_fill f_8 (32 * pg) i, p_8, r_8, lf_8, a_8) dX6_erase_54 rfl rfl (by simp only [y_erase, if_neg c_4, ← hu_8, y_erase2, e9, y_cntT, y_cntF, c_11, not_false_eq_true]) hP hS
          · -- 31 f
            refine lv_aload_n hx hb dX6_erase_34 rfl (lv_at hl 0 rfl) ?_
            refine va_get (D := D) (ci := 6) (v := .ref (am 1)) (C := RX6) (T := TX6) (N := 13) hx hb hts iX6_erase_X6 hown hK hP 0 rfl rfl 1 (by decide) (hts _ qX6_erase_3) (fun _ h9 => h9) rfl dX6_erase_35 ?_
            refine lv_bipush (v := 32) hx hb dX6_erase_38 (by decide) ?_
            refine lv_iload_n hx hb dX6_erase_40 rfl (lv_at hl 1 rfl) ?_
            refine lv_imul hx hb dX6_erase_41 ?_
            refine z_top (v := nI (32 * pg)) (pk_mul 32 pg) ?_
            refine lv_iload_n hx hb dX6_erase_42 rfl (lv_at hl 3 rfl) ?_
            refine lv_iadd hx hb dX6_erase_43 ?_
            refine z_top (v := nI ((32 * pg) + i)) (nI_add (32 * pg) i) ?_
            refine lv_sipush (v := 255) hx hb dX6_erase_44 (by decide) ?_
            refine z_iast hx hb hK hP hD hS 1 0 rfl rfl ((32 * pg) + i) (rfl) (by omega) (by decide) dX6_erase_47 (fun H locs hP hD hS => ?_)
            have hP : va_P D vwCl (mW cI am ke ve (upd (z_fill f_8 (32 * pg) i) ((32 * pg) + i) 255) tb tl p_8 r_8 lf_8 k a_8 im md) _ := hP
            have hD : va_D A (mW cI am ke ve (upd (z_fill f_8 (32 * pg) i) ((32 * pg) + i) 255) tb tl p_8 r_8 lf_8 k a_8 im md) := hD
            refine lv_iinc (v := (nI (i + 1))) (lv' := [(3, .int (nI (i + 1))), (0, .ref (am 0)), (1, .int (nI pg)), (2, .int (k - k / 32 * 32))]) hx hb dX6_erase_48 hl (k := 3) rfl (z_inc _ _ rfl) (by decide) rfl (fun ls hl => ?_)
            refine lv_goto (tgt := 29) hx hb dX6_erase_51 (by decide) ?_
            exact ih_29 (i + 1) _ _ _ (by omega) (by omega) (by omega) hP hD hS (lv_sub hl [1, 2, 3, 0] rfl)
      exact lp_29 _ 0 _ _ _ (Nat.zero_le _) (by first | (exact y_rem _) | decide) (Nat.lt_succ_self _) hP hD hS (lv_sub hl [2, 3, 1, 0] rfl)
    · -- 11 f
      refine lv_bipush (v := 32) hx hb dX6_erase_14 (by decide) ?_
      refine lv_goto (tgt := 26) hx hb dX6_erase_16 (by decide) ?_
      refine lv_istore_n (lv' := [(2, .int 32), (0, .ref (am 0)), (1, .int (nI pg))]) hx hb dX6_erase_26 rfl hl (by decide) rfl (fun ls hl => ?_)
      refine lv_iconst (v := 0) hx hb dX6_erase_27 (by decide) ?_
      refine lv_istore_n (lv' := [(3, .int 0), (2, .int 32), (0, .ref (am 0)), (1, .int (nI pg))]) hx hb dX6_erase_28 rfl hl (by decide) rfl (fun ls hl => ?_)
      have lp_29 : ∀ (g_29 : Nat) (i : Nat) (H : Heap) (locs : List Loc) (ls : Array Slot), i ≤ (32 : Int32).toNatClampNeg → (32 : Int32).toNatClampNeg ≤ 32 → (32 : Int32).toNatClampNeg - i < g_29 → va_P D vwCl (mW cI am ke ve (z_fill f_8 (32 * pg) i) tb tl p_8 r_8 lf_8 k a_8 im md) H → va_D A (mW cI am ke ve (z_fill f_8 (32 * pg) i) tb tl p_8 r_8 lf_8 k a_8 im md) → va_S A s.heap H locs → lv_has ls 4 [(0, .ref (am 0)), (1, .int (nI pg)), (2, .int 32), (3, .int (nI i))] → W p0 l e rm_X6_erase s m args below meth c H locs 0 0 Q (F0 m 29 ls []) := by
        intro g_29
        induction g_29 with
        | zero => intro i H locs ls h1 h2 h9_29; exact absurd h9_29 (Nat.not_lt_zero _)
        | succ g_29 ih_29 =>
          intro i H locs ls h1 h2 h9_29 hP hD hS hl
          refine lv_iload_n hx hb dX6_erase_29 rfl (lv_at hl 3 rfl) ?_
          refine lv_iload_n hx hb dX6_erase_30 rfl (lv_at hl 2 rfl) ?_
          refine z_icmp_geC (tgt := 54) hx hb dX6_erase_31 (by decide) i rfl (by omega) (fun c_31 => ?_) (fun c_31 => ?_)
          · -- 31 t
            have e9 : i = (32 : Int32).toNatClampNeg := by omega
            exact hretV 54 ls _ _ (z_fill f_8 (32 * pg) i, p_8, r_8, lf_8, a_8) dX6_erase_54 rfl rfl (by simp only [y_erase, if_neg c_4, ← hu_8, y_erase2, e9, y_cntT, y_cntF, c_11, not_false_eq_true]) hP hS
          · -- 31 f
            refine lv_aload_n hx hb dX6_erase_34 rfl (lv_at hl 0 rfl) ?_
            refine va_get (D := D) (ci := 6) (v := .ref (am 1)) (C := RX6) (T := TX6) (N := 13) hx hb hts iX6_erase_X6 hown hK hP 0 rfl rfl 1 (by decide) (hts _ qX6_erase_3) (fun _ h9 => h9) rfl dX6_erase_35 ?_
            refine lv_bipush (v := 32) hx hb dX6_erase_38 (by decide) ?_
            refine lv_iload_n hx hb dX6_erase_40 rfl (lv_at hl 1 rfl) ?_
            refine lv_imul hx hb dX6_erase_41 ?_
            refine z_top (v := nI (32 * pg)) (pk_mul 32 pg) ?_
            refine lv_iload_n hx hb dX6_erase_42 rfl (lv_at hl 3 rfl) ?_
            refine lv_iadd hx hb dX6_erase_43 ?_
            refine z_top (v := nI ((32 * pg) + i)) (nI_add (32 * pg) i) ?_
            refine lv_sipush (v := 255) hx hb dX6_erase_44 (by decide) ?_
            refine z_iast hx hb hK hP hD hS 1 0 rfl rfl ((32 * pg) + i) (rfl) (by omega) (by decide) dX6_erase_47 (fun H locs hP hD hS => ?_)
            have hP : va_P D vwCl (mW cI am ke ve (upd (z_fill f_8 (32 * pg) i) ((32 * pg) + i) 255) tb tl p_8 r_8 lf_8 k a_8 im md) _ := hP
            have hD : va_D A (mW cI am ke ve (upd (z_fill f_8 (32 * pg) i) ((32 * pg) + i) 255) tb tl p_8 r_8 lf_8 k a_8 im md) := hD
            refine lv_iinc (v := (nI (i + 1))) (lv' := [(3, .int (nI (i + 1))), (0, .ref (am 0)), (1, .int (nI pg)), (2, .int 32)]) hx hb dX6_erase_48 hl (k := 3) rfl (z_inc _ _ rfl) (by decide) rfl (fun ls hl => ?_)
            refine lv_goto (tgt := 29) hx hb dX6_erase_51 (by decide) ?_
            exact ih_29 (i + 1) _ _ _ (by omega) (by omega) (by omega) hP hD hS (lv_sub hl [1, 2, 3, 0] rfl)
      exact lp_29 _ 0 _ _ _ (Nat.zero_le _) (by first | (exact y_rem _) | decide) (Nat.lt_succ_self _) hP hD hS (lv_sub hl [2, 3, 1, 0] rfl)
abbrev rm_X6_program : Room := { frames := 1, cells := 0, slots := 0, locals := 20 }
set_option maxRecDepth 20000 in
theorem qX6_program_1 : (Cond.fieldLink RX6 19 "FlashBootModel" "power" "Z" : Cond) ∈ wsX6_program := List.mem_of_getElem? (i := 1) rfl
set_option maxRecDepth 20000 in
theorem iX6_program_X6 : ∀ w ∈ wsX60, w ∈ wsX6_program := by decide +kernel
set_option maxRecDepth 20000 in
theorem qX6_program_2 : (Cond.fieldLink RX6 7 "FlashBootModel" "flash" "[I" : Cond) ∈ wsX6_program := List.mem_of_getElem? (i := 2) rfl
set_option maxRecDepth 20000 in
theorem qX6_program_3 : (Cond.fieldLink RX6 46 "FlashBootModel" "mask" "I" : Cond) ∈ wsX6_program := List.mem_of_getElem? (i := 3) rfl
set_option maxHeartbeats 4000000 in
set_option maxRecDepth 100000 in
theorem k_X6_program (l : Launch) (D : va_G) (cI : ClassId) (am : Nat → Nat) (ke : RW) (ve : Int32) (f : RW) (tb : RW) (tl : Nat) (p : Int32) (r : Int32) (lf : Int32) (k : Int32) (a : Int32) (im : RW) (md : Nat) (i : Nat) (x : Int32) (hi : i < 768) : zMW (S := RW × Int32 × Int32 × Int32 × Int32) l D cI yX6_program wsX6_program rm_X6_program [.ref (am 0), .int (nI i), .int x] (mW cI am ke ve f tb tl p r lf k a im md) (y_prog k i x (f, p, r, lf, a)) (fun _ => none) (fun u => mW cI am ke ve u.1 tb tl u.2.1 u.2.2.1 u.2.2.2.1 k u.2.2.2.2 im md) := by
  refine zEntW (cc := cX6_program) (maxL := 3) (ret := none) (own := RX6) (lvs := [(0, .ref (am 0)), (1, .int (nI i)), (2, .int x)]) (by decide) rfl rfl (Nat.le_of_ble_eq_true rfl) rfl ?_
  intro p0 e s m args below meth c Q ls A hx hb hml hts hown hP hK hN hD hS hA hl hret hretV
  refine lv_aload_n hx hb dX6_program_0 rfl (lv_at hl 0 rfl) ?_
  refine va_get (D := D) (ci := 6) (v := .int p) (C := RX6) (T := TX6) (N := 13) hx hb hts iX6_program_X6 hown hK hP 0 rfl rfl 6 (by decide) (hts _ qX6_program_1) (fun _ h9 => h9) rfl dX6_program_1 ?_
  refine lv_if_eq (tgt := 37) hx hb dX6_program_4 (by decide) (fun c_4 => ?_) (fun c_4 => ?_)
  · -- 4 t
    exact hretV 37 ls _ _ (f, p, r, lf, a) dX6_program_37 rfl rfl (by simp only [y_prog, y_prog2, if_pos c_4]) hP hS
  · -- 4 f
    refine lv_aload_n hx hb dX6_program_7 rfl (lv_at hl 0 rfl) ?_
    refine va_get (D := D) (ci := 6) (v := .ref (am 1)) (C := RX6) (T := TX6) (N := 13) hx hb hts iX6_program_X6 hown hK hP 0 rfl rfl 1 (by decide) (hts _ qX6_program_2) (fun _ h9 => h9) rfl dX6_program_8 ?_
    refine lv_iload_n hx hb dX6_program_11 rfl (lv_at hl 1 rfl) ?_
    refine lv_aload_n hx hb dX6_program_12 rfl (lv_at hl 0 rfl) ?_
    refine va_get (D := D) (ci := 6) (v := .ref (am 1)) (C := RX6) (T := TX6) (N := 13) hx hb hts iX6_program_X6 hown hK hP 0 rfl rfl 1 (by decide) (hts _ qX6_program_2) (fun _ h9 => h9) rfl dX6_program_13 ?_
    refine lv_iload_n hx hb dX6_program_16 rfl (lv_at hl 1 rfl) ?_
    refine z_iald hx hb hK hP 1 0 rfl rfl i rfl (by omega) (by decide) dX6_program_17 ?_
    refine lv_aload_n hx hb dX6_program_18 rfl (lv_at hl 0 rfl) ?_
    refine zVW (ws' := fun u => mW cI am ke ve u.2.1 tb tl u.2.2.1 u.2.2.2.1 u.2.2.2.2.1 k u.2.2.2.2.2 im md) (As := []) (rest := [.int (f i), .int (nI i), .ref (am 1)]) ⟨hx, hb, hml, hown, hts⟩ (k_X6_isWhole l D cI am ke ve f tb tl p r lf k a im md) (cwV 0 hts gX6_program_X6_isWhole rfl rfl rfl (by decide +kernel) ⟨Nat.le_of_ble_eq_true rfl, Nat.le_of_ble_eq_true rfl⟩) hP hK hN hD hS hA [0, 1, 2, 3, 4] [] [] rfl (by decide) rfl (fun _ => rfl) (fun _ => rfl) (fun _ => rfl) rfl (va_recv hK hP (ci := 6) (q0 := 0) rfl rfl) rfl hl.1 rfl (Nat.le_of_ble_eq_true rfl) dX6_program_19 ⟨Nat.zero_le _, Nat.zero_le _⟩ (fun u_19 H locs hu_19 hP hD hS => ?_)
    obtain ⟨res_19, f_19, p_19, r_19, lf_19, a_19⟩ := u_19
    have hP : va_P D vwCl (mW cI am ke ve f_19 tb tl p_19 r_19 lf_19 k a_19 im md) _ := hP
    have hD : va_D A (mW cI am ke ve f_19 tb tl p_19 r_19 lf_19 k a_19 im md) := hD
    refine W.eq (g2 := F0 m 22 ls [.int res_19, .int (f i), .int (nI i), .ref (am 1)]) rfl ?_
    refine lv_if_eq (tgt := 29) hx hb dX6_program_22 (by decide) (fun c_22 => ?_) (fun c_22 => ?_)
    · -- 22 t
      refine lv_iload_n hx hb dX6_program_29 rfl (lv_at hl 2 rfl) ?_
      refine lv_aload_n hx hb dX6_program_30 rfl (lv_at hl 0 rfl) ?_
      refine va_get (D := D) (ci := 6) (v := .int k) (C := RX6) (T := TX6) (N := 13) hx hb hts iX6_program_X6 hown hK hP 0 rfl rfl 9 (by decide) (hts _ qX6_program_3) (fun _ h9 => h9) rfl dX6_program_31 ?_
      refine lv_ior hx hb dX6_program_34 ?_
      refine lv_iand hx hb dX6_program_35 ?_
      refine z_iast hx hb hK hP hD hS 1 0 rfl rfl i (rfl) (by omega) (by decide) dX6_program_36 (fun H locs hP hD hS => ?_)
      have hP : va_P D vwCl (mW cI am ke ve (upd f_19 i ((f i) &&& (x ||| k))) tb tl p_19 r_19 lf_19 k a_19 im md) _ := hP
      have hD : va_D A (mW cI am ke ve (upd f_19 i ((f i) &&& (x ||| k))) tb tl p_19 r_19 lf_19 k a_19 im md) := hD
      exact hretV 37 ls _ _ (upd f_19 i ((f i) &&& (x ||| k)), p_19, r_19, lf_19, a_19) dX6_program_37 rfl rfl (by simp only [y_prog, y_prog2, ← hu_19, if_neg c_4, if_pos c_22]) hP hS
    · -- 22 f
      refine lv_iload_n hx hb dX6_program_25 rfl (lv_at hl 2 rfl) ?_
      refine lv_goto (tgt := 35) hx hb dX6_program_26 (by decide) ?_
      refine lv_iand hx hb dX6_program_35 ?_
      refine z_iast hx hb hK hP hD hS 1 0 rfl rfl i (rfl) (by omega) (by decide) dX6_program_36 (fun H locs hP hD hS => ?_)
      have hP : va_P D vwCl (mW cI am ke ve (upd f_19 i ((f i) &&& x)) tb tl p_19 r_19 lf_19 k a_19 im md) _ := hP
      have hD : va_D A (mW cI am ke ve (upd f_19 i ((f i) &&& x)) tb tl p_19 r_19 lf_19 k a_19 im md) := hD
      exact hretV 37 ls _ _ (upd f_19 i ((f i) &&& x), p_19, r_19, lf_19, a_19) dX6_program_37 rfl rfl (by simp only [y_prog, y_prog2, ← hu_19, if_neg c_4, if_neg c_22]) hP hS
abbrev rm_X6_digested : Room := { frames := 0, cells := 0, slots := 0, locals := 0 }
set_option maxRecDepth 20000 in
theorem qX6_digested_1 : (Cond.constant RX6 49 (16777619) : Cond) ∈ wsX6_digested := List.mem_of_getElem? (i := 1) rfl
set_option maxHeartbeats 4000000 in
set_option maxRecDepth 100000 in
theorem k_X6_digested (l : Launch) (D : va_G) (cI : ClassId)   (x : Int32) (b : Int32)  : zMR l D cI yX6_digested wsX6_digested rm_X6_digested [.int x, .int b] (w0 cI) (.int (z_digB x b)) := by
  refine zEntR (cc := cX6_digested) (maxL := 3) (ret := (some .int)) (own := RX6) (lvs := [(0, .int x), (1, .int b)]) (by decide) rfl rfl rfl rfl (Nat.le_of_ble_eq_true rfl) rfl ?_
  intro p0 e s m args below meth c Q ls hx hb hml hts hown hP hK hN hl hret hretA
  refine lv_iload_n hx hb dX6_digested_0 rfl (lv_at hl 0 rfl) ?_
  refine lv_iload_n hx hb dX6_digested_1 rfl (lv_at hl 1 rfl) ?_
  refine lv_ixor hx hb dX6_digested_2 ?_
  refine lv_ldc (v := 16777619) hx hb hown (hts _ qX6_digested_1) dX6_digested_3 ?_
  refine lv_imul hx hb dX6_digested_5 ?_
  refine lv_istore_n (lv' := [(2, .int ((x ^^^ b) * 16777619)), (0, .int x), (1, .int b)]) hx hb dX6_digested_6 rfl hl (by decide) rfl (fun ls hl => ?_)
  refine lv_iload_n hx hb dX6_digested_7 rfl (lv_at hl 0 rfl) ?_
  refine lv_bipush (v := 7) hx hb dX6_digested_8 (by decide) ?_
  refine lv_ishl hx hb dX6_digested_10 ?_
  refine lv_iload_n hx hb dX6_digested_11 rfl (lv_at hl 0 rfl) ?_
  refine lv_bipush (v := 25) hx hb dX6_digested_12 (by decide) ?_
  refine lv_iushr (v := zushr ((x ^^^ b) * 16777619) 25) hx hb dX6_digested_14 rfl ?_
  refine lv_ior hx hb dX6_digested_15 ?_
  refine lv_bipush (v := 97) hx hb dX6_digested_16 (by decide) ?_
  refine lv_iadd hx hb dX6_digested_18 ?_
  exact hret 19 ls (((((x ^^^ b) * 16777619) <<< (7 &&& 31)) ||| (zushr ((x ^^^ b) * 16777619) 25)) + 97) _ dX6_digested_19 rfl rfl (congrArg Value.int (by rfl))
abbrev rm_X6_digestOf : Room := { frames := 1, cells := 0, slots := 0, locals := 22 }
set_option maxRecDepth 20000 in
theorem qX6_digestOf_1 : (Cond.fieldLink RX6 7 "FlashBootModel" "flash" "[I" : Cond) ∈ wsX6_digestOf := List.mem_of_getElem? (i := 1) rfl
set_option maxRecDepth 20000 in
theorem iX6_digestOf_X6 : ∀ w ∈ wsX60, w ∈ wsX6_digestOf := by decide +kernel
set_option maxHeartbeats 4000000 in
set_option maxRecDepth 100000 in
theorem k_X6_digestOf (l : Launch) (D : va_G) (cI : ClassId) (am : Nat → Nat) (ke : RW) (ve : Int32) (f : RW) (tb : RW) (tl : Nat) (p : Int32) (r : Int32) (lf : Int32) (k : Int32) (a : Int32) (im : RW) (md : Nat) (b : Nat) (n1 : Nat) (hb : b + n1 ≤ 768) : zMR l D cI yX6_digestOf wsX6_digestOf rm_X6_digestOf [.ref (am 0), .int (nI b), .int (nI n1)] (mW cI am ke ve f tb tl p r lf k a im md) (.int (y_digN f b n1)) := by
  refine zEntR (cc := cX6_digestOf) (maxL := 5) (ret := (some .int)) (own := RX6) (lvs := [(0, .ref (am 0)), (1, .int (nI b)), (2, .int (nI n1))]) (by decide) rfl rfl rfl rfl (Nat.le_of_ble_eq_true rfl) rfl ?_
  intro p0 e s m args below meth c Q ls hx hb hml hts hown hP hK hN hl hret hretA
  refine lv_iconst (v := 0) hx hb dX6_digestOf_0 (by decide) ?_
  refine lv_istore_n (lv' := [(3, .int 0), (0, .ref (am 0)), (1, .int (nI b)), (2, .int (nI n1))]) hx hb dX6_digestOf_1 rfl hl (by decide) rfl (fun ls hl => ?_)
  refine lv_iconst (v := 0) hx hb dX6_digestOf_2 (by decide) ?_
  refine lv_istore (lv' := [(4, .int 0), (3, .int 0), (0, .ref (am 0)), (1, .int (nI b)), (2, .int (nI n1))]) hx hb dX6_digestOf_3 hl (by decide) rfl (fun ls hl => ?_)
  have lp_5 : ∀ (g_5 : Nat) (i : Nat) (ls : Array Slot), i ≤ n1 → n1 - i < g_5 → lv_has ls 5 [(0, .ref (am 0)), (1, .int (nI b)), (2, .int (nI n1)), (3, .int (y_digN f b i)), (4, .int (nI i))] → W p0 l e rm_X6_digestOf s m args below meth c s.heap [] 0 0 Q (F0 m 5 ls []) := by
    intro g_5
    induction g_5 with
    | zero => intro i ls h1 h9_5; exact absurd h9_5 (Nat.not_lt_zero _)
    | succ g_5 ih_5 =>
      intro i ls h1 h9_5 hl
      refine lv_iload hx hb dX6_digestOf_5 (lv_at hl 4 rfl) ?_
      refine lv_iload_n hx hb dX6_digestOf_7 rfl (lv_at hl 2 rfl) ?_
      refine z_icmp_ge (tgt := 31) hx hb dX6_digestOf_8 (by decide) i n1 rfl rfl (by omega) (by omega) (fun c_8 => ?_) (fun c_8 => ?_)
      · -- 8 t
        refine lv_iload_n hx hb dX6_digestOf_31 rfl (lv_at hl 3 rfl) ?_
        exact hret 32 ls (y_digN f b i) _ dX6_digestOf_32 rfl rfl (congrArg Value.int (by rw [show n1 = i by omega]))
      · -- 8 f
        refine lv_iload_n hx hb dX6_digestOf_11 rfl (lv_at hl 3 rfl) ?_
        refine lv_aload_n hx hb dX6_digestOf_12 rfl (lv_at hl 0 rfl) ?_
        refine va_get (D := D) (ci := 6) (v := .ref (am 1)) (C := RX6) (T := TX6) (N := 13) hx hb hts iX6_digestOf_X6 hown hK hP 0 rfl rfl 1 (by decide) (hts _ qX6_digestOf_1) (fun _ h9 => h9) rfl dX6_digestOf_13 ?_
        refine lv_iload_n hx hb dX6_digestOf_16 rfl (lv_at hl 1 rfl) ?_
        refine lv_iload hx hb dX6_digestOf_17 (lv_at hl 4 rfl) ?_
        refine lv_iadd hx hb dX6_digestOf_19 ?_
        refine z_top (v := nI (b + i)) (nI_add b i) ?_
        refine z_iald hx hb hK hP 1 0 rfl rfl (b + i) rfl (by omega) (by decide) dX6_digestOf_20 ?_
        refine zSR (As := [.int (y_digN f b i), .int (f (b + i))]) (rest := []) ⟨hx, hb, hml, hown, hts⟩ (k_X6_digested l D cI (y_digN f b i) (f (b + i))) (va_cwS 2 hts gX6_digestOf_X6_digested rfl rfl rfl (by decide +kernel) ⟨Nat.le_of_ble_eq_true rfl, Nat.le_of_ble_eq_true rfl⟩) hP hK hN [] rfl rfl hl.1 rfl (Nat.le_of_ble_eq_true rfl) dX6_digestOf_21 ⟨Nat.zero_le _, Nat.zero_le _⟩ ?_
        refine lv_istore_n (lv' := [(3, .int (z_digB (y_digN f b i) (f (b + i)))), (0, .ref (am 0)), (1, .int (nI b)), (2, .int (nI n1)), (4, .int (nI i))]) hx hb dX6_digestOf_24 rfl hl (by decide) rfl (fun ls hl => ?_)
        refine lv_iinc (v := (nI (i + 1))) (lv' := [(4, .int (nI (i + 1))), (3, .int (z_digB (y_digN f b i) (f (b + i)))), (0, .ref (am 0)), (1, .int (nI b)), (2, .int (nI n1))]) hx hb dX6_digestOf_25 hl (k := 4) rfl (z_inc _ _ rfl) (by decide) rfl (fun ls hl => ?_)
        refine lv_goto (tgt := 5) hx hb dX6_digestOf_28 (by decide) ?_
        exact ih_5 (i + 1) _ (by omega) (by omega) (lv_sub hl [2, 3, 4, 1, 0] rfl)
  exact lp_5 _ 0 _ (Nat.zero_le _) (Nat.lt_succ_self _) (lv_sub hl [2, 3, 4, 1, 0] rfl)
abbrev rm_X6_four : Room := { frames := 0, cells := 0, slots := 0, locals := 0 }
set_option maxRecDepth 20000 in
theorem qX6_four_1 : (Cond.fieldLink RX6 7 "FlashBootModel" "flash" "[I" : Cond) ∈ wsX6_four := List.mem_of_getElem? (i := 1) rfl
set_option maxRecDepth 20000 in
theorem iX6_four_X6 : ∀ w ∈ wsX60, w ∈ wsX6_four := by decide +kernel
set_option maxHeartbeats 4000000 in
set_option maxRecDepth 100000 in
theorem k_X6_four (l : Launch) (D : va_G) (cI : ClassId) (am : Nat → Nat) (ke : RW) (ve : Int32) (f : RW) (tb : RW) (tl : Nat) (p : Int32) (r : Int32) (lf : Int32) (k : Int32) (a : Int32) (im : RW) (md : Nat) (b : Nat) (hb : b + 4 ≤ 768) : zMR l D cI yX6_four wsX6_four rm_X6_four [.ref (am 0), .int (nI b)] (mW cI am ke ve f tb tl p r lf k a im md) (.int (y_four f b)) := by
  refine zEntR (cc := cX6_four) (maxL := 2) (ret := (some .int)) (own := RX6) (lvs := [(0, .ref (am 0)), (1, .int (nI b))]) (by decide) rfl rfl rfl rfl (Nat.le_of_ble_eq_true rfl) rfl ?_
  intro p0 e s m args below meth c Q ls hx hb hml hts hown hP hK hN hl hret hretA
  refine lv_aload_n hx hb dX6_four_0 rfl (lv_at hl 0 rfl) ?_
  refine va_get (D := D) (ci := 6) (v := .ref (am 1)) (C := RX6) (T := TX6) (N := 13) hx hb hts iX6_four_X6 hown hK hP 0 rfl rfl 1 (by decide) (hts _ qX6_four_1) (fun _ h9 => h9) rfl dX6_four_1 ?_
  refine lv_iload_n hx hb dX6_four_4 rfl (lv_at hl 1 rfl) ?_
  refine z_iald hx hb hK hP 1 0 rfl rfl b rfl (by omega) (by decide) dX6_four_5 ?_
  refine lv_bipush (v := 24) hx hb dX6_four_6 (by decide) ?_
  refine lv_ishl hx hb dX6_four_8 ?_
  refine lv_aload_n hx hb dX6_four_9 rfl (lv_at hl 0 rfl) ?_
  refine va_get (D := D) (ci := 6) (v := .ref (am 1)) (C := RX6) (T := TX6) (N := 13) hx hb hts iX6_four_X6 hown hK hP 0 rfl rfl 1 (by decide) (hts _ qX6_four_1) (fun _ h9 => h9) rfl dX6_four_10 ?_
  refine lv_iload_n hx hb dX6_four_13 rfl (lv_at hl 1 rfl) ?_
  refine lv_iconst (v := 1) hx hb dX6_four_14 (by decide) ?_
  refine lv_iadd hx hb dX6_four_15 ?_
  refine z_top (v := nI (b + 1)) (nI_add b 1) ?_
  refine z_iald hx hb hK hP 1 0 rfl rfl (b + 1) rfl (by omega) (by decide) dX6_four_16 ?_
  refine lv_bipush (v := 16) hx hb dX6_four_17 (by decide) ?_
  refine lv_ishl hx hb dX6_four_19 ?_
  refine lv_ior hx hb dX6_four_20 ?_
  refine lv_aload_n hx hb dX6_four_21 rfl (lv_at hl 0 rfl) ?_
  refine va_get (D := D) (ci := 6) (v := .ref (am 1)) (C := RX6) (T := TX6) (N := 13) hx hb hts iX6_four_X6 hown hK hP 0 rfl rfl 1 (by decide) (hts _ qX6_four_1) (fun _ h9 => h9) rfl dX6_four_22 ?_
  refine lv_iload_n hx hb dX6_four_25 rfl (lv_at hl 1 rfl) ?_
  refine lv_iconst (v := 2) hx hb dX6_four_26 (by decide) ?_
  refine lv_iadd hx hb dX6_four_27 ?_
  refine z_top (v := nI (b + 2)) (nI_add b 2) ?_
  refine z_iald hx hb hK hP 1 0 rfl rfl (b + 2) rfl (by omega) (by decide) dX6_four_28 ?_
  refine lv_bipush (v := 8) hx hb dX6_four_29 (by decide) ?_
  refine lv_ishl hx hb dX6_four_31 ?_
  refine lv_ior hx hb dX6_four_32 ?_
  refine lv_aload_n hx hb dX6_four_33 rfl (lv_at hl 0 rfl) ?_
  refine va_get (D := D) (ci := 6) (v := .ref (am 1)) (C := RX6) (T := TX6) (N := 13) hx hb hts iX6_four_X6 hown hK hP 0 rfl rfl 1 (by decide) (hts _ qX6_four_1) (fun _ h9 => h9) rfl dX6_four_34 ?_
  refine lv_iload_n hx hb dX6_four_37 rfl (lv_at hl 1 rfl) ?_
  refine lv_iconst (v := 3) hx hb dX6_four_38 (by decide) ?_
  refine lv_iadd hx hb dX6_four_39 ?_
  refine z_top (v := nI (b + 3)) (nI_add b 3) ?_
  refine z_iald hx hb hK hP 1 0 rfl rfl (b + 3) rfl (by omega) (by decide) dX6_four_40 ?_
  refine lv_ior hx hb dX6_four_41 ?_
  exact hret 42 ls (((((f b) <<< (24 &&& 31)) ||| ((f (b + 1)) <<< (16 &&& 31))) ||| ((f (b + 2)) <<< (8 &&& 31))) ||| (f (b + 3))) _ dX6_four_42 rfl rfl (congrArg Value.int (by rfl))
abbrev rm_X6_part : Room := { frames := 0, cells := 0, slots := 0, locals := 0 }
set_option maxHeartbeats 4000000 in
set_option maxRecDepth 100000 in
theorem k_X6_part (l : Launch) (D : va_G) (cI : ClassId)   (x : Int32) (y : Int32)  : zMR l D cI yX6_part wsX6_part rm_X6_part [.int x, .int y] (w0 cI) (.int (y_part x y)) := by
  refine zEntR (cc := cX6_part) (maxL := 2) (ret := (some .int)) (own := RX6) (lvs := [(0, .int x), (1, .int y)]) (by decide) rfl rfl rfl rfl (Nat.le_of_ble_eq_true rfl) rfl ?_
  intro p0 e s m args below meth c Q ls hx hb hml hts hown hP hK hN hl hret hretA
  refine lv_iload_n hx hb dX6_part_0 rfl (lv_at hl 0 rfl) ?_
  refine lv_bipush (v := 24) hx hb dX6_part_1 (by decide) ?_
  refine lv_bipush (v := 8) hx hb dX6_part_3 (by decide) ?_
  refine lv_iload_n hx hb dX6_part_5 rfl (lv_at hl 1 rfl) ?_
  refine lv_imul hx hb dX6_part_6 ?_
  refine lv_isub hx hb dX6_part_7 ?_
  refine lv_ishr hx hb dX6_part_8 ?_
  refine lv_sipush (v := 255) hx hb dX6_part_9 (by decide) ?_
  refine lv_iand hx hb dX6_part_12 ?_
  exact hret 13 ls ((x >>> ((24 - (8 * y)) &&& 31)) &&& 255) _ dX6_part_13 rfl rfl (congrArg Value.int (by rfl))
abbrev rm_X6_imageAt : Room := { frames := 0, cells := 0, slots := 0, locals := 0 }
set_option maxHeartbeats 4000000 in
set_option maxRecDepth 100000 in
theorem k_X6_imageAt (l : Launch) (D : va_G) (cI : ClassId)   (x : Nat)  : zMR l D cI yX6_imageAt wsX6_imageAt rm_X6_imageAt [.int (nI x)] (w0 cI) (.int (nI (224 * x))) := by
  refine zEntR (cc := cX6_imageAt) (maxL := 1) (ret := (some .int)) (own := RX6) (lvs := [(0, .int (nI x))]) (by decide) rfl rfl rfl rfl (Nat.le_of_ble_eq_true rfl) rfl ?_
  intro p0 e s m args below meth c Q ls hx hb hml hts hown hP hK hN hl hret hretA
  refine lv_sipush (v := 224) hx hb dX6_imageAt_0 (by decide) ?_
  refine lv_iload_n hx hb dX6_imageAt_3 rfl (lv_at hl 0 rfl) ?_
  refine lv_imul hx hb dX6_imageAt_4 ?_
  refine z_top (v := nI (224 * x)) (pk_mul 224 x) ?_
  exact hret 5 ls (nI (224 * x)) _ dX6_imageAt_5 rfl rfl (congrArg Value.int (by rfl))
abbrev rm_X6_headerAt : Room := { frames := 0, cells := 0, slots := 0, locals := 0 }
set_option maxHeartbeats 4000000 in
set_option maxRecDepth 100000 in
theorem k_X6_headerAt (l : Launch) (D : va_G) (cI : ClassId)   (x : Nat)  : zMR l D cI yX6_headerAt wsX6_headerAt rm_X6_headerAt [.int (nI x)] (w0 cI) (.int (nI (224 * x + 192))) := by
  refine zEntR (cc := cX6_headerAt) (maxL := 1) (ret := (some .int)) (own := RX6) (lvs := [(0, .int (nI x))]) (by decide) rfl rfl rfl rfl (Nat.le_of_ble_eq_true rfl) rfl ?_
  intro p0 e s m args below meth c Q ls hx hb hml hts hown hP hK hN hl hret hretA
  refine lv_sipush (v := 224) hx hb dX6_headerAt_0 (by decide) ?_
  refine lv_iload_n hx hb dX6_headerAt_3 rfl (lv_at hl 0 rfl) ?_
  refine lv_imul hx hb dX6_headerAt_4 ?_
  refine z_top (v := nI (224 * x)) (pk_mul 224 x) ?_
  refine lv_sipush (v := 192) hx hb dX6_headerAt_5 (by decide) ?_
  refine lv_iadd hx hb dX6_headerAt_8 ?_
  refine z_top (v := nI ((224 * x) + 192)) (nI_add (224 * x) 192) ?_
  exact hret 9 ls (nI ((224 * x) + 192)) _ dX6_headerAt_9 rfl rfl (congrArg Value.int (by rfl))
abbrev rm_X6_ones : Room := { frames := 0, cells := 0, slots := 0, locals := 0 }
set_option maxHeartbeats 4000000 in
set_option maxRecDepth 100000 in
theorem k_X6_ones (l : Launch) (D : va_G) (cI : ClassId)   (b : Int32)  : zMR l D cI yX6_ones wsX6_ones rm_X6_ones [.int b] (w0 cI) (.int (y_ones b)) := by
  refine zEntR (cc := cX6_ones) (maxL := 3) (ret := (some .int)) (own := RX6) (lvs := [(0, .int b)]) (by decide) rfl rfl rfl rfl (Nat.le_of_ble_eq_true rfl) rfl ?_
  intro p0 e s m args below meth c Q ls hx hb hml hts hown hP hK hN hl hret hretA
  refine lv_iconst (v := 0) hx hb dX6_ones_0 (by decide) ?_
  refine lv_istore_n (lv' := [(1, .int 0), (0, .int b)]) hx hb dX6_ones_1 rfl hl (by decide) rfl (fun ls hl => ?_)
  refine lv_iconst (v := 0) hx hb dX6_ones_2 (by decide) ?_
  refine lv_istore_n (lv' := [(2, .int 0), (1, .int 0), (0, .int b)]) hx hb dX6_ones_3 rfl hl (by decide) rfl (fun ls hl => ?_)
  have lp_4 : ∀ (g_4 : Nat) (i : Nat) (ls : Array Slot), i ≤ 8 → 8 - i < g_4 → lv_has ls 3 [(0, .int b), (1, .int (y_onesN b i)), (2, .int (nI i))] → W p0 l e rm_X6_ones s m args below meth c s.heap [] 0 0 Q (F0 m 4 ls []) := by
    intro g_4
    induction g_4 with
    | zero => intro i ls h1 h9_4; exact absurd h9_4 (Nat.not_lt_zero _)
    | succ g_4 ih_4 =>
      intro i ls h1 h9_4 hl
      refine lv_iload_n hx hb dX6_ones_4 rfl (lv_at hl 2 rfl) ?_
      refine lv_bipush (v := 8) hx hb dX6_ones_5 (by decide) ?_
      refine z_icmp_ge (tgt := 24) hx hb dX6_ones_7 (by decide) i 8 rfl rfl (by omega) (by omega) (fun c_7 => ?_) (fun c_7 => ?_)
      · -- 7 t
        refine lv_iload_n hx hb dX6_ones_24 rfl (lv_at hl 1 rfl) ?_
        exact hret 25 ls (y_onesN b i) _ dX6_ones_25 rfl rfl (congrArg Value.int (by rw [y_ones, show 8 = i by omega]))
      · -- 7 f
        refine lv_iload_n hx hb dX6_ones_10 rfl (lv_at hl 1 rfl) ?_
        refine lv_iload_n hx hb dX6_ones_11 rfl (lv_at hl 0 rfl) ?_
        refine lv_iload_n hx hb dX6_ones_12 rfl (lv_at hl 2 rfl) ?_
        refine lv_ishr hx hb dX6_ones_13 ?_
        refine lv_iconst (v := 1) hx hb dX6_ones_14 (by decide) ?_
        refine lv_iand hx hb dX6_ones_15 ?_
        refine lv_iadd hx hb dX6_ones_16 ?_
        refine lv_istore_n (lv' := [(1, .int ((y_onesN b i) + ((b >>> ((nI i) &&& 31)) &&& 1))), (0, .int b), (2, .int (nI i))]) hx hb dX6_ones_17 rfl hl (by decide) rfl (fun ls hl => ?_)
        refine lv_iinc (v := (nI (i + 1))) (lv' := [(2, .int (nI (i + 1))), (1, .int ((y_onesN b i) + ((b >>> ((nI i) &&& 31)) &&& 1))), (0, .int b)]) hx hb dX6_ones_18 hl (k := 2) rfl (z_inc _ _ rfl) (by decide) rfl (fun ls hl => ?_)
        refine lv_goto (tgt := 4) hx hb dX6_ones_21 (by decide) ?_
        exact ih_4 (i + 1) _ (by omega) (by omega) (lv_sub hl [2, 1, 0] rfl)
  exact lp_4 _ 0 _ (by omega) (Nat.lt_succ_self _) (lv_sub hl [2, 1, 0] rfl)
abbrev rm_X6_counterValue : Room := { frames := 1, cells := 0, slots := 0, locals := 22 }
set_option maxRecDepth 20000 in
theorem qX6_counterValue_1 : (Cond.fieldLink RX6 7 "FlashBootModel" "flash" "[I" : Cond) ∈ wsX6_counterValue := List.mem_of_getElem? (i := 1) rfl
set_option maxRecDepth 20000 in
theorem iX6_counterValue_X6 : ∀ w ∈ wsX60, w ∈ wsX6_counterValue := by decide +kernel
set_option maxHeartbeats 4000000 in
set_option maxRecDepth 100000 in
theorem k_X6_counterValue (l : Launch) (D : va_G) (cI : ClassId) (am : Nat → Nat) (ke : RW) (ve : Int32) (f : RW) (tb : RW) (tl : Nat) (p : Int32) (r : Int32) (lf : Int32) (k : Int32) (a : Int32) (im : RW) (md : Nat)   : zMR l D cI yX6_counterValue wsX6_counterValue rm_X6_counterValue [.ref (am 0)] (mW cI am ke ve f tb tl p r lf k a im md) (.int (y_cv f)) := by
  refine zEntR (cc := cX6_counterValue) (maxL := 3) (ret := (some .int)) (own := RX6) (lvs := [(0, .ref (am 0))]) (by decide) rfl rfl rfl rfl (Nat.le_of_ble_eq_true rfl) rfl ?_
  intro p0 e s m args below meth c Q ls hx hb hml hts hown hP hK hN hl hret hretA
  refine lv_sipush (v := 256) hx hb dX6_counterValue_0 (by decide) ?_
  refine lv_istore_n (lv' := [(1, .int 256), (0, .ref (am 0))]) hx hb dX6_counterValue_3 rfl hl (by decide) rfl (fun ls hl => ?_)
  refine lv_iconst (v := 0) hx hb dX6_counterValue_4 (by decide) ?_
  refine lv_istore_n (lv' := [(2, .int 0), (1, .int 256), (0, .ref (am 0))]) hx hb dX6_counterValue_5 rfl hl (by decide) rfl (fun ls hl => ?_)
  have lp_6 : ∀ (g_6 : Nat) (i : Nat) (ls : Array Slot), i ≤ 32 → 32 - i < g_6 → lv_has ls 3 [(0, .ref (am 0)), (1, .int (y_cvN f i)), (2, .int (nI i))] → W p0 l e rm_X6_counterValue s m args below meth c s.heap [] 0 0 Q (F0 m 6 ls []) := by
    intro g_6
    induction g_6 with
    | zero => intro i ls h1 h9_6; exact absurd h9_6 (Nat.not_lt_zero _)
    | succ g_6 ih_6 =>
      intro i ls h1 h9_6 hl
      refine lv_iload_n hx hb dX6_counterValue_6 rfl (lv_at hl 2 rfl) ?_
      refine lv_bipush (v := 32) hx hb dX6_counterValue_7 (by decide) ?_
      refine z_icmp_ge (tgt := 34) hx hb dX6_counterValue_9 (by decide) i 32 rfl rfl (by omega) (by omega) (fun c_9 => ?_) (fun c_9 => ?_)
      · -- 9 t
        refine lv_iload_n hx hb dX6_counterValue_34 rfl (lv_at hl 1 rfl) ?_
        exact hret 35 ls (y_cvN f i) _ dX6_counterValue_35 rfl rfl (congrArg Value.int (by rw [y_cv, show 32 = i by omega]))
      · -- 9 f
        refine lv_iload_n hx hb dX6_counterValue_12 rfl (lv_at hl 1 rfl) ?_
        refine lv_aload_n hx hb dX6_counterValue_13 rfl (lv_at hl 0 rfl) ?_
        refine va_get (D := D) (ci := 6) (v := .ref (am 1)) (C := RX6) (T := TX6) (N := 13) hx hb hts iX6_counterValue_X6 hown hK hP 0 rfl rfl 1 (by decide) (hts _ qX6_counterValue_1) (fun _ h9 => h9) rfl dX6_counterValue_14 ?_
        refine lv_sipush (v := 704) hx hb dX6_counterValue_17 (by decide) ?_
        refine lv_iload_n hx hb dX6_counterValue_20 rfl (lv_at hl 2 rfl) ?_
        refine lv_iadd hx hb dX6_counterValue_21 ?_
        refine z_top (v := nI (704 + i)) (nI_add 704 i) ?_
        refine z_iald hx hb hK hP 1 0 rfl rfl (704 + i) rfl (by omega) (by decide) dX6_counterValue_22 ?_
        refine zSR (As := [.int (f (704 + i))]) (rest := [.int (y_cvN f i)]) ⟨hx, hb, hml, hown, hts⟩ (k_X6_ones l D cI (f (704 + i))) (va_cwS 1 hts gX6_counterValue_X6_ones rfl rfl rfl (by decide +kernel) ⟨Nat.le_of_ble_eq_true rfl, Nat.le_of_ble_eq_true rfl⟩) hP hK hN [] rfl rfl hl.1 rfl (Nat.le_of_ble_eq_true rfl) dX6_counterValue_23 ⟨Nat.zero_le _, Nat.zero_le _⟩ ?_
        refine lv_isub hx hb dX6_counterValue_26 ?_
        refine lv_istore_n (lv' := [(1, .int ((y_cvN f i) - (y_ones (f (704 + i))))), (0, .ref (am 0)), (2, .int (nI i))]) hx hb dX6_counterValue_27 rfl hl (by decide) rfl (fun ls hl => ?_)
        refine lv_iinc (v := (nI (i + 1))) (lv' := [(2, .int (nI (i + 1))), (1, .int ((y_cvN f i) - (y_ones (f (704 + i))))), (0, .ref (am 0))]) hx hb dX6_counterValue_28 hl (k := 2) rfl (z_inc _ _ rfl) (by decide) rfl (fun ls hl => ?_)
        refine lv_goto (tgt := 6) hx hb dX6_counterValue_31 (by decide) ?_
        exact ih_6 (i + 1) _ (by omega) (by omega) (lv_sub hl [2, 1, 0] rfl)
  exact lp_6 _ 0 _ (by omega) (Nat.lt_succ_self _) (lv_sub hl [2, 1, 0] rfl)
abbrev rm_X6_sequenceOf : Room := { frames := 1, cells := 0, slots := 0, locals := 20 }
set_option maxRecDepth 20000 in
theorem qX6_sequenceOf_1 : (Cond.fieldLink RX6 7 "FlashBootModel" "flash" "[I" : Cond) ∈ wsX6_sequenceOf := List.mem_of_getElem? (i := 1) rfl
set_option maxRecDepth 20000 in
theorem iX6_sequenceOf_X6 : ∀ w ∈ wsX60, w ∈ wsX6_sequenceOf := by decide +kernel
set_option maxHeartbeats 4000000 in
set_option maxRecDepth 100000 in
theorem k_X6_sequenceOf (l : Launch) (D : va_G) (cI : ClassId) (am : Nat → Nat) (ke : RW) (ve : Int32) (f : RW) (tb : RW) (tl : Nat) (p : Int32) (r : Int32) (lf : Int32) (k : Int32) (a : Int32) (im : RW) (md : Nat) (x : Nat) (hx2 : x < 2) : zMR l D cI yX6_sequenceOf wsX6_sequenceOf rm_X6_sequenceOf [.ref (am 0), .int (nI x)] (mW cI am ke ve f tb tl p r lf k a im md) (.int (f (224 * x + 192 + 1))) := by
  refine zEntR (cc := cX6_sequenceOf) (maxL := 2) (ret := (some .int)) (own := RX6) (lvs := [(0, .ref (am 0)), (1, .int (nI x))]) (by decide) rfl rfl rfl rfl (Nat.le_of_ble_eq_true rfl) rfl ?_
  intro p0 e s m args below meth c Q ls hx hb hml hts hown hP hK hN hl hret hretA
  refine lv_aload_n hx hb dX6_sequenceOf_0 rfl (lv_at hl 0 rfl) ?_
  refine va_get (D := D) (ci := 6) (v := .ref (am 1)) (C := RX6) (T := TX6) (N := 13) hx hb hts iX6_sequenceOf_X6 hown hK hP 0 rfl rfl 1 (by decide) (hts _ qX6_sequenceOf_1) (fun _ h9 => h9) rfl dX6_sequenceOf_1 ?_
  refine lv_iload_n hx hb dX6_sequenceOf_4 rfl (lv_at hl 1 rfl) ?_
  refine zSR (As := [.int (nI x)]) (rest := [.ref (am 1)]) ⟨hx, hb, hml, hown, hts⟩ (k_X6_headerAt l D cI x) (va_cwS 1 hts gX6_sequenceOf_X6_headerAt rfl rfl rfl (by decide +kernel) ⟨Nat.le_of_ble_eq_true rfl, Nat.le_of_ble_eq_true rfl⟩) hP hK hN [] rfl rfl hl.1 rfl (Nat.le_of_ble_eq_true rfl) dX6_sequenceOf_5 ⟨Nat.zero_le _, Nat.zero_le _⟩ ?_
  refine lv_iconst (v := 1) hx hb dX6_sequenceOf_8 (by decide) ?_
  refine lv_iadd hx hb dX6_sequenceOf_9 ?_
  refine z_top (v := nI ((224 * x + 192) + 1)) (nI_add (224 * x + 192) 1) ?_
  refine z_iald hx hb hK hP 1 0 rfl rfl ((224 * x + 192) + 1) rfl (by omega) (by decide) dX6_sequenceOf_10 ?_
  exact hret 11 ls (f ((224 * x + 192) + 1)) _ dX6_sequenceOf_11 rfl rfl (congrArg Value.int (by rfl))
