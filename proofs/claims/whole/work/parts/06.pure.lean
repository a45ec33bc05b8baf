-- the class's methods as plain functions: each as its bytecode branches
abbrev RW : Type := Nat → Int32
abbrev FS : Type := RW × Int32 × Int32 × Int32 × Int32 × Int32
def zushr (x y : Int32) : Int32 := (x.toUInt32 >>> (y.toUInt32 &&& Int32.toUInt32 31)).toInt32
def zlushr (x : Int64) (y : Int32) : Int64 := (x.toUInt64 >>> (y.toInt64.toUInt64 &&& Int64.toUInt64 63)).toInt64
def zlshr (x : Int64) (y : Int32) : Int64 := x >>> (y.toInt64 &&& 63)
def zlshl (x : Int64) (y : Int32) : Int64 := x <<< (y.toInt64 &&& 63)
def z_fill (f : RW) (b : Nat) : Nat → RW
  | 0 => f
  | i + 1 => upd (z_fill f b i) (b + i) 255
def z_cnt (t k : Int32) : Int32 := if t = 0 then 32 else k - k / 32 * 32
def z_tear : FS → Int32 × FS
  | (f, p, a, st, n, k) => if st = 0 then (0, f, p, a + 1, st, n, k) else if n ≤ 0 then (1, f, 0, a + 1, 0, n, k) else (0, f, p, a + 1, st, n - 1, k)
def z_erase2 (pg : Nat) : Int32 × FS → FS
  | (t, f, p, a, st, n, k) => (z_fill f (pg * 32) (z_cnt t k).toNatClampNeg, p, a, st, n, k)
def z_erase (pg : Nat) : FS → FS
  | (f, p, a, st, n, k) => if p = 0 then (f, p, a, st, n, k) else z_erase2 pg (z_tear (f, p, a, st, n, k))
def z_prog2 (i v : Int32) : Int32 × FS → FS
  | (t, f, p, a, st, n, k) => (upd f i.toNatClampNeg (f i.toNatClampNeg &&& (if t = 0 then v else v ||| k)), p, a, st, n, k)
def z_prog (i v : Int32) : FS → FS
  | (f, p, a, st, n, k) => if p = 0 then (f, p, a, st, n, k) else if i < 0 then (f, p, a, st, n, k) else if i < 768 then z_prog2 i v (z_tear (f, p, a, st, n, k)) else (f, p, a, st, n, k)
def z_at (f : RW) (i : Int32) : Int32 := if i < 0 then (-1) else if 768 ≤ i then (-1) else f i.toNatClampNeg
def z_set (x y : Int32) (q : FS) : FS := (q.1, q.2.1, q.2.2.1, if x < 0 then 0 else 1, x, y)
def z_rowN (F : FS) (b : Int32) (row : RW) : Nat → FS
  | 0 => F
  | i + 1 => z_prog (b + nI i) (row i) (z_rowN F b row i)
def z_row (b : Int32) (row : RW) (rl : Nat) (len : Int32) (F : FS) : FS := z_rowN F b row (min len.toNatClampNeg rl)
def z_bow (w i : Int32) : Int32 := zushr w (24 - 8 * i) &&& 255
def z_pwN (F : FS) (b w : Int32) : Nat → FS
  | 0 => F
  | i + 1 => z_prog (b + nI i) (z_bow w (nI i)) (z_pwN F b w i)
def z_pw (b w : Int32) (F : FS) : FS := z_pwN F b w 4
def z_plow (i : Int32) : FS → FS
  | (f, p, a, st, n, k) => z_prog i (z_at f i &&& (z_at f i - 1)) (f, p, a, st, n, k)
def z_wordN (f : RW) (b : Int32) : Nat → Int32
  | 0 => 0
  | i + 1 => (z_wordN f b i <<< (8 &&& 31)) ||| z_at f (b + nI i)
def z_word (f : RW) (b : Int32) : Int32 := z_wordN f b 4
def z_digB2 (x : Int32) : Int32 := ((x <<< (7 &&& 31)) ||| zushr x 25) + 97
def z_digB (d b : Int32) : Int32 := z_digB2 ((d ^^^ b) * 16777619)
def z_digN (f : RW) (b : Int32) : Nat → Int32
  | 0 => 0
  | i + 1 => z_digB (z_digN f b i) (z_at f (b + nI i))
def z_digO (f : RW) (b len : Int32) : Int32 := z_digN f b len.toNatClampNeg
def z_rdigN (d0 : Int32) (row : RW) : Nat → Int32
  | 0 => d0
  | i + 1 => z_digB (z_rdigN d0 row i) (row i)
def z_dig (d0 : Int32) (row : RW) (rl : Nat) (len : Int32) : Int32 := z_rdigN d0 row (min len.toNatClampNeg rl)
def z_isSeq (s : Int32) : Int32 := if s < 1 then 0 else if 200 < s then 0 else 1
def z_isLen (s : Int32) : Int32 := if s < 1 then 0 else if 192 < s then 0 else 1
def z_bc1 (x : Int32) : Int32 := x - (zushr x 1 &&& 1431655765)
def z_bc2 (x : Int32) : Int32 := (x &&& 858993459) + (zushr x 2 &&& 858993459)
def z_bc3 (x : Int32) : Int32 := (x + zushr x 4) &&& 252645135
def z_bc4 (x : Int32) : Int32 := x + zushr x 8
def z_bc5 (x : Int32) : Int32 := x + zushr x 16
def z_bc (x : Int32) : Int32 := z_bc5 (z_bc4 (z_bc3 (z_bc2 (z_bc1 x)))) &&& 63
theorem z_rem32 (k : Int32) : (k - k / 32 * 32).toNatClampNeg ≤ 31 := by
  have h1 : (k - k / 32 * 32) = k % 32 := by
    apply Int32.toInt_inj.mp
    rw [Int32.toInt_mod]
    rw [Int32.toInt_sub, Int32.toInt_mul, Int32.toInt_div]
    have h32 : (32 : Int32).toInt = 32 := rfl
    rw [h32]
    have hlo := Int32.le_toInt k
    have hhi := Int32.toInt_lt k
    have e1 := Int.tmod_add_mul_tdiv k.toInt 32
    have e2 : -32 < k.toInt.tmod 32 ∧ k.toInt.tmod 32 < 32 := tmod_bounds (by decide)
    have key : ∀ x : Int, -2147483648 ≤ x → x < 2147483648 → x.bmod (2 ^ 32) = x := fun x h1 h2 => Int.bmod_eq_of_le (by omega) (by omega)
    have e3 : 0 ≤ k.toInt → 0 ≤ k.toInt.tmod 32 := fun h => Int.tmod_nonneg 32 h
    have e4 : k.toInt ≤ 0 → k.toInt.tmod 32 ≤ 0 := fun h => by
      have h5 := Int.tmod_nonneg 32 (a := -k.toInt) (by omega)
      rw [Int.neg_tmod] at h5
      omega
    generalize k.toInt.tdiv 32 = q at *
    generalize k.toInt.tmod 32 = r at *
    rw [key q (by omega) (by omega), key (q * 32) (by omega) (by omega), key (k.toInt - q * 32) (by omega) (by omega)]
    omega
  rw [h1]
  unfold Int32.toNatClampNeg
  rw [Int32.toInt_mod]
  have h32 : (32 : Int32).toInt = 32 := rfl
  rw [h32]
  have e2 : -32 < k.toInt.tmod 32 ∧ k.toInt.tmod 32 < 32 := tmod_bounds (by decide)
  omega
theorem z_vp {i : Int32} {n : Nat} {m : Int32} (hm : m = nI n) (hn : n < 2 ^ 31) (h1 : ¬ i < 0) (h2 : i < m) : vp_in i n := by
  subst hm
  rw [vp_in_iff]
  rw [Int32.lt_iff_toInt_lt] at h1 h2
  rw [nI_toInt hn] at h2
  have h0 : (0 : Int32).toInt = 0 := rfl
  omega
theorem z_cntT {t k : Int32} (h : t = 0) : z_cnt t k = 32 := by rw [z_cnt, if_pos h]
theorem z_cntF {t k : Int32} (h : ¬ t = 0) : z_cnt t k = k - k / 32 * 32 := by rw [z_cnt, if_neg h]
section ZM
variable {p : Program} {l : Launch} {e : Env} {R : Room} {s : State} {m : MethodId} {args : Array Value} {below : List Frame} {meth : Method} {c : Code} {H : Heap} {locs : List Loc} {cells slots : Nat} {Q : State → Prop}
variable {cc : ByteArray} {pc : Nat} {ls : Array Slot} {rest : List Value}
theorem z_icmp_geC (hexec : p.tables.exec = Jvm.exec) (hb : c.code = cc) {x y : Int32} {off : Int} {tgt : Nat} (hdg : decode cc pc = .ok (.if_icmp .ge off, 3)) (ht : (pc : Int) + off = (tgt : Int)) (i : Nat) (hx : x = nI i) (hi : i < 2 ^ 31)
    (kt : y.toNatClampNeg ≤ i → W p l e R s m args below meth c H locs cells slots Q (F0 m tgt ls rest)) (kf : i < y.toNatClampNeg → W p l e R s m args below meth c H locs cells slots Q (F0 m (pc + 3) ls rest)) : W p l e R s m args below meth c H locs cells slots Q (F0 m pc ls (.int y :: .int x :: rest)) := by
  subst hx
  exact lv_icmp_ge hexec hb hdg ht (fun h => kt ((z_ge0 hi).mp h)) (fun h => kf (Nat.lt_of_not_le (fun q => h ((z_ge0 hi).mpr q))))
theorem z_icmp_eq (hexec : p.tables.exec = Jvm.exec) (hb : c.code = cc) {x y : Int32} {off : Int} {tgt : Nat} (hdg : decode cc pc = .ok (.if_icmp .eq off, 3)) (ht : (pc : Int) + off = (tgt : Int)) (i j : Nat) (hx : x = nI i) (hy : y = nI j) (hi : i < 2 ^ 31) (hj : j < 2 ^ 31)
    (kt : i = j → W p l e R s m args below meth c H locs cells slots Q (F0 m tgt ls rest)) (kf : ¬ i = j → W p l e R s m args below meth c H locs cells slots Q (F0 m (pc + 3) ls rest)) : W p l e R s m args below meth c H locs cells slots Q (F0 m pc ls (.int y :: .int x :: rest)) := by
  subst hx; subst hy
  exact lv_icmp_eq hexec hb hdg ht (fun h => kt ((nI_eq hi hj).mp h)) (fun h => kf (fun q => h ((nI_eq hi hj).mpr q)))
theorem z_icmp_ne (hexec : p.tables.exec = Jvm.exec) (hb : c.code = cc) {x y : Int32} {off : Int} {tgt : Nat} (hdg : decode cc pc = .ok (.if_icmp .ne off, 3)) (ht : (pc : Int) + off = (tgt : Int)) (i j : Nat) (hx : x = nI i) (hy : y = nI j) (hi : i < 2 ^ 31) (hj : j < 2 ^ 31)
    (kt : ¬ i = j → W p l e R s m args below meth c H locs cells slots Q (F0 m tgt ls rest)) (kf : i = j → W p l e R s m args below meth c H locs cells slots Q (F0 m (pc + 3) ls rest)) : W p l e R s m args below meth c H locs cells slots Q (F0 m pc ls (.int y :: .int x :: rest)) := by
  subst hx; subst hy
  exact lv_icmp_ne hexec hb hdg ht (fun h => kt (fun q => h ((nI_eq hi hj).mpr q))) (fun h => kf ((nI_eq hi hj).mp h))
theorem z_topR {x v : Nat} (hv : x = v) (k : W p l e R s m args below meth c H locs cells slots Q (F0 m pc ls (.ref v :: rest))) : W p l e R s m args below meth c H locs cells slots Q (F0 m pc ls (.ref x :: rest)) := by rw [hv]; exact k
end ZM
theorem z_clamp (x : Int32) : x.toNatClampNeg < 2 ^ 31 := by
  have h := Int32.toInt_lt x
  unfold Int32.toNatClampNeg
  omega
abbrev wF (cI : ClassId) (h q : Nat) (f : RW) (p : Int32) (a : Int32) (st : Int32) (n : Int32) (k : Int32) : va_W := [(h, .inr (0, [.ref q, .int p, .int a, .int st, .int n, .int k])), (q, .inl (cI, 768, .inl f))]
abbrev wFR (cI : ClassId) (h q r : Nat) (f : RW) (p : Int32) (a : Int32) (st : Int32) (n : Int32) (k : Int32) (row : RW) (rl : Nat) : va_W := [(h, .inr (0, [.ref q, .int p, .int a, .int st, .int n, .int k])), (q, .inl (cI, 768, .inl f)), (r, .inl (cI, rl, .inl row))]
abbrev wS (cI : ClassId) (g h q : Nat) (fp : Nat) (sd : Int32) (hd : Int32) (f : RW) (p : Int32) (a : Int32) (st : Int32) (n : Int32) (k : Int32) : va_W := [(g, .inr (3, [.int (nI fp), .int sd, .int hd])), (h, .inr (0, [.ref q, .int p, .int a, .int st, .int n, .int k])), (q, .inl (cI, 768, .inl f))]
abbrev wSR (cI : ClassId) (g h q r : Nat) (fp : Nat) (sd : Int32) (hd : Int32) (f : RW) (p : Int32) (a : Int32) (st : Int32) (n : Int32) (k : Int32) (row : RW) (rl : Nat) : va_W := [(g, .inr (3, [.int (nI fp), .int sd, .int hd])), (h, .inr (0, [.ref q, .int p, .int a, .int st, .int n, .int k])), (q, .inl (cI, 768, .inl f)), (r, .inl (cI, rl, .inl row))]
abbrev wM (cI : ClassId) (h q : Nat) (ob : RW) : va_W := [(h, .inr (1, [.ref q])), (q, .inl (cI, 20, .inl ob))]
abbrev wMF (cI : ClassId) (h q x y : Nat) (ob : RW) (f : RW) (p : Int32) (a : Int32) (st : Int32) (n : Int32) (k : Int32) : va_W := [(h, .inr (1, [.ref q])), (q, .inl (cI, 20, .inl ob)), (x, .inr (0, [.ref y, .int p, .int a, .int st, .int n, .int k])), (y, .inl (cI, 768, .inl f))]
abbrev wMT (cI : ClassId) (h q x y : Nat) (ob : RW) (tb : RW) (tl : Nat) : va_W := [(h, .inr (1, [.ref q])), (q, .inl (cI, 20, .inl ob)), (x, .inr (4, [.ref y, .int (nI tl)])), (y, .inl (cI, 192, .inl tb))]
abbrev wMK (cI : ClassId) (h q x : Nat) (ob : RW) (K : RW) : va_W := [(h, .inr (1, [.ref q])), (q, .inl (cI, 20, .inl ob)), (x, .inl (cI, 8, .inl K))]
abbrev wT (cI : ClassId) (h q : Nat) (tb : RW) (tl : Nat) : va_W := [(h, .inr (4, [.ref q, .int (nI tl)])), (q, .inl (cI, 192, .inl tb))]
abbrev wPF (cI : ClassId) (h q x y : Nat) (im : RW) (md : Nat) (f : RW) (p : Int32) (a : Int32) (st : Int32) (n : Int32) (k : Int32) : va_W := [(h, .inr (2, [.ref q, .int (nI md)])), (q, .inl (cI, 192, .inl im)), (x, .inr (0, [.ref y, .int p, .int a, .int st, .int n, .int k])), (y, .inl (cI, 768, .inl f))]
abbrev wR (cI : ClassId) (r : Nat) (row : RW) (rl : Nat) : va_W := [(r, .inl (cI, rl, .inl row))]
abbrev w0 (cI : ClassId)   : va_W := []
abbrev cW (cI : ClassId) (ad : Nat → Nat) (K : RW) (v : Int32) (f : RW) (p : Int32) (a : Int32) (st : Int32) (n : Int32) (k : Int32) (tb : RW) (tl : Nat) (ob : RW) (im : RW) (md : Nat) (rn : Int32) : va_W := [((ad 0), .inr (5, [.ref (ad 1), .int v, .ref (ad 2), .ref (ad 4), .ref (ad 6), .ref (ad 7), .ref (ad 8), .ref (ad 10), .int rn])), ((ad 1), .inl (cI, 8, .inl K)), ((ad 2), .inr (0, [.ref (ad 3), .int p, .int a, .int st, .int n, .int k])), ((ad 3), .inl (cI, 768, .inl f)), ((ad 4), .inr (4, [.ref (ad 5), .int (nI tl)])), ((ad 5), .inl (cI, 192, .inl tb)), ((ad 6), .inr (3, [.int 0, .int 0, .int 192])), ((ad 7), .inr (3, [.int 7, .int 224, .int 416])), ((ad 8), .inr (1, [.ref (ad 9)])), ((ad 9), .inl (cI, 20, .inl ob)), ((ad 10), .inr (2, [.ref (ad 11), .int (nI md)])), ((ad 11), .inl (cI, 192, .inl im))]
abbrev mW (cI : ClassId) (am : Nat → Nat) (ke : RW) (ve : Int32) (f : RW) (tb : RW) (tl : Nat) (p : Int32) (r : Int32) (lf : Int32) (k : Int32) (a : Int32) (im : RW) (md : Nat) : va_W := [((am 0), .inr (6, [.int 0, .ref (am 1), .ref (am 2), .int ve, .ref (am 3), .int (nI tl), .int p, .int r, .int lf, .int k, .int a, .ref (am 4), .int (nI md)])), ((am 1), .inl (cI, 768, .inl f)), ((am 2), .inl (cI, 8, .inl ke)), ((am 3), .inl (cI, 192, .inl tb)), ((am 4), .inl (cI, 192, .inl im))]
