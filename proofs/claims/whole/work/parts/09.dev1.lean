-- the device's own methods
def z_slot (ad : Nat → Nat) (x : Int32) : Nat := if x = 0 then ad 6 else ad 7
def z_torn (x p rn : Int32) : Int32 × Int32 := if p = 0 then (-2, -7) else (x, rn)
def z_cntN (f : RW) : Nat → Int32
  | 0 => 0
  | i + 1 => z_cntN f i + (8 - z_bc (z_at f (nI (704 + i))))
def z_cntr (f : RW) : Int32 := z_cntN f 32
def z_hd (rn : Int32) : Int32 := if rn = 0 then 192 else 416
def z_old (f : RW) (rn x : Int32) : Int32 := if x ≤ z_cntr f then 1 else if rn = -7 then 1 else if z_at f (z_hd rn + 1) < x then 0 else 1
def z_ours (ob K : RW) (v : Int32) : Int32 := if z_mTag ob K = 0 then 0 else if ob 0 = v then 1 else 0
def z_judge2 (K : RW) (v : Int32) (f : RW) (rn : Int32) (o : RW) : Int32 × RW :=
  if z_mRange o = 0 then (-1, o) else if z_ours o K v = 0 then (-4, o) else if z_old f rn (o 1) = 0 then (if z_stand f o = 0 then (0, o) else (1, o)) else (-3, o)
def z_judge (K : RW) (v : Int32) (f : RW) (rn : Int32) (tb : RW) (tl : Nat) (ob : RW) : Int32 × RW := if tl = 20 then z_judge2 K v f rn (z_rdT tb ob) else (-1, ob)
def z_eStN (F : FS) : Nat → FS
  | 0 => F
  | i + 1 => z_erase (14 + i) (z_eStN F i)
def z_stage (ob : RW) (F : FS) : FS := z_row 640 ob 20 20 (z_eStN (z_erase 20 (z_erase 21 F)) 6)
def z_rsm2 (K : RW) (v : Int32) (o : RW) : Int32 × RW := if z_mRange o = 0 then (0, o) else if z_ours o K v = 0 then (0, o) else (1, o)
def z_rsm (K : RW) (v : Int32) (f ob : RW) : Int32 × RW := z_rsm2 K v (z_rdP f ob)
def z_blks (x : Int32) : Int32 := (x + 16 - 1) / 16
def z_isBlk (x y : Int32) : Int32 := if x < 0 then 0 else if z_blks y ≤ x then 0 else 1
def z_blkLen (ob : RW) (x : Int32) : Int32 := if ob 6 - 16 * x < 16 then ob 6 - 16 * x else 16
def z_there (f : RW) (x : Int32) : Int32 := if z_at f (672 + x) = 0 then 1 else 0
def z_stgN (f : RW) : Nat → Nat → Int32
  | 0, _ => 1
  | d + 1, i => if z_there f (nI i) = 0 then 0 else z_stgN f d (i + 1)
def z_stgd (f ob : RW) : Int32 := z_stgN f (z_blks (ob 6)).toNatClampNeg 0
def z_mk2 (ob : RW) : Int32 × RW × Nat → Int32 × RW × Nat
  | (r, im, md) => if r = 0 then (0, im, md) else if nI md = ob 11 then (if z_dig 0 im 192 (nI md) = z_mword ob 12 then (1, im, md) else (0, im, md)) else (0, im, md)
def z_mk (bs hn : Nat) (hd : Int32) (f ob : RW) : RW × Nat → Int32 × RW × Nat
  | (im, md) => if z_digO f 448 (ob 6) = z_mword ob 7 then
      (if z_mword ob 2 = 0 then z_mk2 ob (z_unf f (zb ob 6) bs 0 im)
       else if z_mword ob 2 = z_word f (hd + 2) then z_mk2 ob (z_unf f (zb ob 6) bs (zb f hn) im) else (0, im, md))
    else (0, im, md)
def z_upd (fp : Nat) (sd hd : Int32) (im : RW) (md : Nat) (ob : RW) (F : FS) : FS :=
  z_erase 20 (z_prog (hd + 8) 0 (z_prog (hd + 6) 15 (z_name hd (ob 11) (ob 1) (z_mword ob 12) (z_row sd im 192 (nI md) (z_eImg fp (z_erase (fp + 6) F))))))
def z_later (f : RW) (x y : Int32) : Int32 := if y = 0 then (if x = 0 then (-7) else 0) else if x = 0 then 1 else if z_at f (416 + 1) ≤ z_at f (192 + 1) then (if x = 0 then (-7) else 0) else 1
def z_canT (sd hd : Int32) (f : RW) : Int32 := if z_sGood sd hd f (z_cntr f) = 0 then 0 else if z_sTrial hd f = 0 then 0 else 1
def z_canC (sd hd : Int32) (f : RW) : Int32 := if z_sGood sd hd f (z_cntr f) = 0 then 0 else if z_sConf hd f = 0 then 0 else 1
def z_onTrial (f : RW) : Int32 := z_later f (z_canT 0 192 f) (z_canT 224 416 f)
def z_onConf (f : RW) : Int32 := z_later f (z_canC 0 192 f) (z_canC 224 416 f)
def z_clrN : Nat → Nat → FS → FS
  | 0, _, F => F
  | d + 1, i, F => if z_at F.1 (nI i) = 0 then z_clrN d (i + 1) F else z_plow (nI i) F
def z_clr (F : FS) : FS := z_clrN 32 704 F
def z_raiseN : Nat → FS → FS
  | 0, F => F
  | d + 1, F => z_raiseN d (z_clr F)
def z_dist (x c : Int32) : Nat := (x.toInt - c.toInt).toNat
def z_raise (x : Int32) (F : FS) : FS := z_raiseN (z_dist x (z_cntr F.1)) F
theorem z_dist0 {x c : Int32} (h : x ≤ c) : z_dist x c = 0 := by
  rw [Int32.le_iff_toInt_le] at h
  unfold z_dist
  omega
theorem z_dist1 {x c : Int32} (h : ¬ x ≤ c) : z_dist x c = z_dist x (c + 1) + 1 := by
  rw [Int32.le_iff_toInt_le] at h
  have h1 := Int32.toInt_lt x
  have h2 := Int32.le_toInt c
  have h3 : (c + 1).toInt = c.toInt + 1 := by
    rw [Int32.toInt_add]
    have h4 : (1 : Int32).toInt = 1 := rfl
    rw [h4]
    exact Int.bmod_eq_of_le (by omega) (by omega)
  unfold z_dist
  omega
-- the face
def c_type2 : Int32 × RW × Nat → Int32 × RW × Nat
  | (r, tb, t) => if r = 0 then (-8, tb, t) else (nI t, tb, t)
def c_type (x : Int64) (y : Int32) : RW × Nat → Int32 × RW × Nat
  | (tb, tl) => if y < 1 then (-1, tb, tl) else if y ≤ 8 then c_type2 (z_add x y.toNatClampNeg (tb, tl)) else (-1, tb, tl)
def z_fact (x : Int32) (tb : RW) (tl : Nat) (F : FS) : FS :=
  z_prog (192 + 8) 0 (z_prog (192 + 7) 0 (z_name 192 (nI tl) x (z_dig 0 tb 192 (nI tl)) (z_row 0 tb 192 (nI tl) (z_erase 22 (z_erase (0 + 6) (z_eImg 0 F))))))
def c_fact2 : FS → Int32 × RW × Int32 × Int32 × Int32 × Int32 × Int32 × Nat × Int32
  | (f, p, a, st, n, k) => ((z_torn 1 p (-7)).1, f, p, a, st, n, k, 0, (z_torn 1 p (-7)).2)
def c_factory (x : Int32) (tb : RW) (tl : Nat) (rn : Int32) : FS → Int32 × RW × Int32 × Int32 × Int32 × Int32 × Int32 × Nat × Int32
  | (f, p, a, st, n, k) => if p = 0 then (-2, f, p, a, st, n, k, tl, rn) else if z_isSeq x = 0 then (-1, f, p, a, st, n, k, tl, rn) else if 1 ≤ tl then c_fact2 (z_fact x tb tl (f, p, a, st, n, k)) else (-1, f, p, a, st, n, k, tl, rn)
def c_man3 (r rn : Int32) (o : RW) : FS → Int32 × RW × RW × Int32 × Int32 × Int32 × Int32 × Int32 × Nat × Int32
  | (f, p, a, st, n, k) => ((z_torn r p rn).1, o, f, p, a, st, n, k, 0, (z_torn r p rn).2)
def c_man2 (rn : Int32) (F : FS) : Int32 × RW → Int32 × RW × RW × Int32 × Int32 × Int32 × Int32 × Int32 × Nat × Int32
  | (r, o) => if r = 0 then c_man3 r rn o (z_stage o F) else c_man3 r rn o F
def c_manifest (K : RW) (v : Int32) (tb : RW) (tl : Nat) (ob : RW) (rn : Int32) : FS → Int32 × RW × RW × Int32 × Int32 × Int32 × Int32 × Int32 × Nat × Int32
  | (f, p, a, st, n, k) => if p = 0 then (-2, ob, f, p, a, st, n, k, tl, rn) else c_man2 rn (f, p, a, st, n, k) (z_judge K v f rn tb tl ob)
def c_blk2 (x : Int32) (tb : RW) (tl : Nat) (rn : Int32) : FS → Int32 × RW → Int32 × RW × RW × Int32 × Int32 × Int32 × Int32 × Int32 × Nat × Int32
  | (f, p, a, st, n, k), (r, o) => if r = 0 then (-1, o, f, p, a, st, n, k, tl, rn) else if z_isBlk x (o 6) = 0 then (-1, o, f, p, a, st, n, k, tl, rn) else
      if nI tl = z_blkLen o x then
        (if z_there f x = 0 then c_man3 1 rn o (z_prog (672 + x) 0 (z_row (448 + 16 * x) tb 192 (nI tl) (f, p, a, st, n, k))) else c_man3 0 rn o (f, p, a, st, n, k))
      else (-1, o, f, p, a, st, n, k, tl, rn)
def c_block (K : RW) (v x : Int32) (tb : RW) (tl : Nat) (ob : RW) (rn : Int32) : FS → Int32 × RW × RW × Int32 × Int32 × Int32 × Int32 × Int32 × Nat × Int32
  | (f, p, a, st, n, k) => if p = 0 then (-2, ob, f, p, a, st, n, k, tl, rn) else c_blk2 x tb tl rn (f, p, a, st, n, k) (z_rsm K v f ob)
def c_ins4 (rn : Int32) (o im : RW) (md : Nat) : FS → Int32 × RW × RW × Int32 × Int32 × Int32 × Int32 × Int32 × RW × Nat × Int32
  | (f, p, a, st, n, k) => ((z_torn 1 p rn).1, o, f, p, a, st, n, k, im, md, (z_torn 1 p rn).2)
def c_ins3 (rn : Int32) (o : RW) : FS → Int32 × RW × Nat → Int32 × RW × RW × Int32 × Int32 × Int32 × Int32 × Int32 × RW × Nat × Int32
  | (f, p, a, st, n, k), (r, im, md) => if r = 0 then (-6, o, f, p, a, st, n, k, im, md, rn) else
      if 1 - rn = 0 then c_ins4 rn o im md (z_upd 0 0 192 im md o (f, p, a, st, n, k)) else c_ins4 rn o im md (z_upd 7 224 416 im md o (f, p, a, st, n, k))
def c_ins2 (im : RW) (md : Nat) (rn : Int32) : FS → Int32 × RW → Int32 × RW × RW × Int32 × Int32 × Int32 × Int32 × Int32 × RW × Nat × Int32
  | (f, p, a, st, n, k), (r, o) => if r = 0 then (-7, o, f, p, a, st, n, k, im, md, rn) else
      if z_old f rn (o 1) = 0 then
        (if z_stgd f o = 0 then (-5, o, f, p, a, st, n, k, im, md, rn) else
          if rn = 0 then c_ins3 rn o (f, p, a, st, n, k) (z_mk 0 192 192 f o (im, md)) else c_ins3 rn o (f, p, a, st, n, k) (z_mk 224 416 416 f o (im, md)))
      else (-3, o, f, p, a, st, n, k, im, md, rn)
def c_install (K : RW) (v : Int32) (ob im : RW) (md : Nat) (rn : Int32) : FS → Int32 × RW × RW × Int32 × Int32 × Int32 × Int32 × Int32 × RW × Nat × Int32
  | (f, p, a, st, n, k) => if p = 0 then (-2, ob, f, p, a, st, n, k, im, md, rn) else c_ins2 im md rn (f, p, a, st, n, k) (z_rsm K v f ob)
def c_boot2 (rn : Int32) : FS → Int32 × RW × Int32 × Int32 × Int32 × Int32 × Int32 × Int32
  | (f, p, a, st, n, k) => ((z_torn rn p rn).1, f, p, a, st, n, k, (z_torn rn p rn).2)
def c_boot : FS → Int32 × RW × Int32 × Int32 × Int32 × Int32 × Int32 × Int32
  | (f, _, a, st, n, k) => if z_onTrial f = -7 then (z_onConf f, f, 1, a, st, n, k, z_onConf f) else
      if z_onTrial f = 0 then c_boot2 (z_onTrial f) (z_plow (192 + 6) (f, 1, a, st, n, k)) else c_boot2 (z_onTrial f) (z_plow (416 + 6) (f, 1, a, st, n, k))
def c_conf3 (rn : Int32) : FS → Int32 × RW × Int32 × Int32 × Int32 × Int32 × Int32 × Int32
  | (f, p, a, st, n, k) => ((z_torn 1 p rn).1, f, p, a, st, n, k, (z_torn 1 p rn).2)
def c_conf2 (hd rn : Int32) (F : FS) : Int32 × RW × Int32 × Int32 × Int32 × Int32 × Int32 × Int32 := c_conf3 rn (z_raise (z_at F.1 (hd + 1)) F)
def c_confirm (rn : Int32) : FS → Int32 × RW × Int32 × Int32 × Int32 × Int32 × Int32 × Int32
  | (f, p, a, st, n, k) => if p = 0 then (-2, f, p, a, st, n, k, rn) else if rn = -7 then (-7, f, p, a, st, n, k, rn) else
      if z_sConf (z_hd rn) f = 0 then c_conf2 (z_hd rn) rn (z_prog (z_hd rn + 7) 0 (f, p, a, st, n, k)) else (0, f, p, a, st, n, k, rn)
def c_crash2 : FS → Int32 × RW × Int32 × Int32 × Int32 × Int32 × Int32
  | (f, p, a, st, n, k) => (1, f, p, a, st, n, k)
def c_crash (x y : Int32) : FS → Int32 × RW × Int32 × Int32 × Int32 × Int32 × Int32
  | (f, p, a, st, n, k) => if y < 0 then (-1, f, p, a, st, n, k) else if y ≤ 255 then c_crash2 (z_set x y (f, p, a, st, n, k)) else (-1, f, p, a, st, n, k)
def c_good2 (sd hd : Int32) (f : RW) : Int32 := if z_sGood sd hd f (z_cntr f) = 0 then 0 else 1
def c_good (f : RW) (x : Int32) : Int32 := if x = 0 then c_good2 0 192 f else if x = 1 then c_good2 224 416 f else (-1)
theorem z_natOf {x m : Int32} {n : Nat} (hm : m = nI n) (hn : n < 2 ^ 31) (h1 : ¬ x < 1) (h2 : x ≤ m) : ∃ j : Nat, 1 ≤ j ∧ j ≤ n ∧ x = nI j := by
  subst hm
  rw [Int32.lt_iff_toInt_lt] at h1
  rw [Int32.le_iff_toInt_le, nI_toInt hn] at h2
  have h0 : (1 : Int32).toInt = 1 := rfl
  refine ⟨x.toNatClampNeg, ?_, ?_, ?_⟩
  · unfold Int32.toNatClampNeg; omega
  · unfold Int32.toNatClampNeg; omega
  · apply Int32.toInt_inj.mp
    rw [nI_toInt (by unfold Int32.toNatClampNeg; omega)]
    unfold Int32.toNatClampNeg; omega
theorem z_lenOf {x : Int32} (h : ¬ z_isLen x = 0) : ∃ j : Nat, 1 ≤ j ∧ j ≤ 192 ∧ x = nI j := by
  rw [z_isLen] at h
  split at h
  · exact absurd rfl h
  · split at h
    · exact absurd rfl h
    · exact z_natOf (m := 192) rfl (by decide) (by assumption) (Int32.not_lt.mp (by assumption))
theorem z_len2 {ob : RW} {i : Nat} (h : ¬ z_isLen (ob i) = 0) : ob i = nI (zb ob i) ∧ zb ob i ≤ 192 := by
  obtain ⟨j, h1, h2, h3⟩ := z_lenOf h
  have h4 : zb ob i = j := by rw [zb, h3, nI_clamp (by omega)]
  rw [h4]
  exact ⟨h3, h2⟩
theorem z_rsm_len {K f ob o : RW} {v r : Int32} (h : (r, o) = z_rsm K v f ob) (hr : ¬ r = 0) : o 6 = nI (zb o 6) ∧ zb o 6 ≤ 192 := by
  rw [z_rsm, z_rsm2] at h
  split at h
  · cases h; exact absurd rfl hr
  · split at h
    · cases h; exact absurd rfl hr
    · cases h
      rename_i h1 h2
      apply z_len2
      intro h3
      apply h1
      rw [z_mRange]
      split
      · rfl
      · first | rfl | rw [if_pos h3]
theorem z_nb {x : Int32} (h : x = 0 ∨ x = 1) : narrow .boolean (.int x) = .int x := by
  rcases h with rfl | rfl <;> rfl
theorem z_sGood01 (sd hd : Int32) (f : RW) (x : Int32) : z_sGood sd hd f x = 0 ∨ z_sGood sd hd f x = 1 := by
  rw [z_sGood]
  repeat' split
  all_goals first | exact Or.inl rfl | exact Or.inr rfl
abbrev rm_X5_slot : Room := { frames := 0, cells := 0, slots := 0, locals := 0 }
set_option maxRecDepth 20000 in
theorem qX5_slot_2 : (Cond.fieldLink RX5 32 "FlashBoot" "upper" "LFlashBoot$Slot;" : Cond) ∈ wsX5_slot := List.mem_of_getElem? (i := 2) rfl
set_option maxRecDepth 20000 in
theorem iX5_slot_X5 : ∀ w ∈ wsX50, w ∈ wsX5_slot := by decide +kernel
set_option maxRecDepth 20000 in
theorem qX5_slot_1 : (Cond.fieldLink RX5 28 "FlashBoot" "lower" "LFlashBoot$Slot;" : Cond) ∈ wsX5_slot := List.mem_of_getElem? (i := 1) rfl
set_option maxHeartbeats 4000000 in
set_option maxRecDepth 100000 in
theorem k_X5_slot (l : Launch) (D : va_G) (cI : ClassId) (ad : Nat → Nat) (K : RW) (v : Int32) (f : RW) (p : Int32) (a : Int32) (st : Int32) (n : Int32) (k : Int32) (tb : RW) (tl : Nat) (ob : RW) (im : RW) (md : Nat) (rn : Int32) (x : Int32)  : zMR l D cI yX5_slot wsX5_slot rm_X5_slot [.ref (ad 0), .int x] (cW cI ad K v f p a st n k tb tl ob im md rn) (.ref (z_slot ad x)) := by
  refine zEntR (cc := cX5_slot) (maxL := 2) (ret := (some (.object "FlashBoot$Slot"))) (own := RX5) (lvs := [(0, .ref (ad 0)), (1, .int x)]) (by decide) rfl rfl rfl rfl (Nat.le_of_ble_eq_true rfl) rfl ?_
  intro p0 e s m args below meth c Q ls hx hb hml hts hown hP hK hN hl hret hretA
  refine lv_iload_n hx hb dX5_slot_0 rfl (lv_at hl 1 rfl) ?_
  refine lv_if_ne (tgt := 11) hx hb dX5_slot_1 (by decide) (fun c_1 => ?_) (fun c_1 => ?_)
  · -- 1 t
    refine lv_aload_n hx hb dX5_slot_11 rfl (lv_at hl 0 rfl) ?_
    refine va_get (D := D) (ci := 5) (v := .ref (ad 7)) (C := RX5) (T := TX5) (N := 9) hx hb hts iX5_slot_X5 hown hK hP 0 rfl rfl 5 (by decide) (hts _ qX5_slot_2) (fun _ h9 => h9) rfl dX5_slot_12 ?_
    exact hretA 15 ls (ad 7) _ dX5_slot_15 rfl (congrArg Value.ref (by simp only [z_slot, if_neg c_1]))
  · -- 1 f
    refine lv_aload_n hx hb dX5_slot_4 rfl (lv_at hl 0 rfl) ?_
    refine va_get (D := D) (ci := 5) (v := .ref (ad 6)) (C := RX5) (T := TX5) (N := 9) hx hb hts iX5_slot_X5 hown hK hP 0 rfl rfl 4 (by decide) (hts _ qX5_slot_1) (fun _ h9 => h9) rfl dX5_slot_5 ?_
    refine lv_goto (tgt := 15) hx hb dX5_slot_8 (by decide) ?_
    exact hretA 15 ls (ad 6) _ dX5_slot_15 rfl (congrArg Value.ref (by simp only [z_slot, if_pos c_1]))
abbrev rm_X5_unlessTorn : Room := { frames := 0, cells := 0, slots := 0, locals := 0 }
set_option maxRecDepth 20000 in
theorem qX5_unlessTorn_1 : (Cond.fieldLink RX5 12 "FlashBoot" "flash" "LFlashBoot$Flash;" : Cond) ∈ wsX5_unlessTorn := List.mem_of_getElem? (i := 1) rfl
set_option maxRecDepth 20000 in
theorem iX5_unlessTorn_X5 : ∀ w ∈ wsX50, w ∈ wsX5_unlessTorn := by decide +kernel
set_option maxRecDepth 20000 in
theorem iX5_unlessTorn_X0 : ∀ w ∈ wsX00, w ∈ wsX5_unlessTorn := by decide +kernel
set_option maxRecDepth 20000 in
theorem qX5_unlessTorn_2 : (Cond.fieldLink RX5 49 "FlashBoot" "runs" "I" : Cond) ∈ wsX5_unlessTorn := List.mem_of_getElem? (i := 2) rfl
set_option maxHeartbeats 4000000 in
set_option maxRecDepth 100000 in
theorem k_X5_unlessTorn (l : Launch) (D : va_G) (cI : ClassId) (ad : Nat → Nat) (K : RW) (v : Int32) (f : RW) (p : Int32) (a : Int32) (st : Int32) (n : Int32) (k : Int32) (tb : RW) (tl : Nat) (ob : RW) (im : RW) (md : Nat) (rn : Int32) (x : Int32)  : zMW (S := Int32 × Int32) l D cI yX5_unlessTorn wsX5_unlessTorn rm_X5_unlessTorn [.ref (ad 0), .int x] (cW cI ad K v f p a st n k tb tl ob im md rn) (z_torn x p rn) (fun u => some (.int u.1)) (fun u => cW cI ad K v f p a st n k tb tl ob im md u.2) := by
  refine zEntW (cc := cX5_unlessTorn) (maxL := 2) (ret := (some .int)) (own := RX5) (lvs := [(0, .ref (ad 0)), (1, .int x)]) (by decide) rfl rfl (Nat.le_of_ble_eq_true rfl) rfl ?_
  intro p0 e s m args below meth c Q ls A hx hb hml hts hown hP hK hN hD hS hA hl hret hretV
  refine lv_aload_n hx hb dX5_unlessTorn_0 rfl (lv_at hl 0 rfl) ?_
  refine va_get (D := D) (ci := 5) (v := .ref (ad 2)) (C := RX5) (T := TX5) (N := 9) hx hb hts iX5_unlessTorn_X5 hown hK hP 0 rfl rfl 2 (by decide) (hts _ qX5_unlessTorn_1) (fun _ h9 => h9) rfl dX5_unlessTorn_1 ?_
  refine va_getN (host := RX5) (D := D) (ci := 0) (v := .int p) (C := RX0) (T := TX0) (N := 6) hx hb hts iX5_unlessTorn_X0 hown hK hP 2 rfl rfl 1 (by decide) (zN_use hN 0 rfl) (fun _ h9 => h9) rfl dX5_unlessTorn_4 ?_
  refine lv_if_eq (tgt := 12) hx hb dX5_unlessTorn_7 (by decide) (fun c_7 => ?_) (fun c_7 => ?_)
  · -- 7 t
    refine lv_aload_n hx hb dX5_unlessTorn_12 rfl (lv_at hl 0 rfl) ?_
    refine lv_bipush (v := (-7)) hx hb dX5_unlessTorn_13 (by decide) ?_
    refine va_put (D := D) (ci := 5) (v := .int (-7)) (ty := .int) (C := RX5) (T := TX5) (N := 9) hx hb hts iX5_unlessTorn_X5 tyX5 tyX5_ok nmX5 hown hK hP hD hS 0 rfl rfl 8 (by decide) (hts _ qX5_unlessTorn_2) (fun _ h9 => h9) rfl (by decide +kernel) rfl rfl (Nat.le_of_ble_eq_true rfl) dX5_unlessTorn_15 (fun H locs hP hD hS => ?_)
    have hP : va_P D vwCl (cW cI ad K v f p a st n k tb tl ob im md (-7)) _ := hP
    have hD : va_D A (cW cI ad K v f p a st n k tb tl ob im md (-7)) := hD
    refine lv_bipush (v := (-2)) hx hb dX5_unlessTorn_18 (by decide) ?_
    exact hret 20 ls _ _ ((-2), (-7)) (-2) _ dX5_unlessTorn_20 rfl rfl rfl (by simp only [z_torn, if_pos c_7]) hP hS
  · -- 7 f
    refine lv_iload_n hx hb dX5_unlessTorn_10 rfl (lv_at hl 1 rfl) ?_
    exact hret 11 ls _ _ (x, rn) x _ dX5_unlessTorn_11 rfl rfl rfl (by simp only [z_torn, if_neg c_7]) hP hS
abbrev rm_X5_counter : Room := { frames := 1, cells := 0, slots := 0, locals := 21 }
set_option maxRecDepth 20000 in
theorem qX5_counter_1 : (Cond.fieldLink RX5 12 "FlashBoot" "flash" "LFlashBoot$Flash;" : Cond) ∈ wsX5_counter := List.mem_of_getElem? (i := 1) rfl
set_option maxRecDepth 20000 in
theorem iX5_counter_X5 : ∀ w ∈ wsX50, w ∈ wsX5_counter := by decide +kernel
set_option maxHeartbeats 4000000 in
set_option maxRecDepth 100000 in
theorem k_X5_counter (l : Launch) (D : va_G) (cI : ClassId) (ad : Nat → Nat) (K : RW) (v : Int32) (f : RW) (p : Int32) (a : Int32) (st : Int32) (n : Int32) (k : Int32) (tb : RW) (tl : Nat) (ob : RW) (im : RW) (md : Nat) (rn : Int32)   : zMR l D cI yX5_counter wsX5_counter rm_X5_counter [.ref (ad 0)] (cW cI ad K v f p a st n k tb tl ob im md rn) (.int (z_cntr f)) := by
  refine zEntR (cc := cX5_counter) (maxL := 3) (ret := (some .int)) (own := RX5) (lvs := [(0, .ref (ad 0))]) (by decide) rfl rfl rfl rfl (Nat.le_of_ble_eq_true rfl) rfl ?_
  intro p0 e s m args below meth c Q ls hx hb hml hts hown hP hK hN hl hret hretA
  refine lv_iconst (v := 0) hx hb dX5_counter_0 (by decide) ?_
  refine lv_istore_n (lv' := [(1, .int 0), (0, .ref (ad 0))]) hx hb dX5_counter_1 rfl hl (by decide) rfl (fun ls hl => ?_)
  refine lv_iconst (v := 0) hx hb dX5_counter_2 (by decide) ?_
  refine lv_istore_n (lv' := [(2, .int 0), (1, .int 0), (0, .ref (ad 0))]) hx hb dX5_counter_3 rfl hl (by decide) rfl (fun ls hl => ?_)
  have lp_4 : ∀ (g_4 : Nat) (i : Nat) (ls : Array Slot), i ≤ 32 → 32 - i < g_4 → lv_has ls 3 [(0, .ref (ad 0)), (1, .int (z_cntN f i)), (2, .int (nI i))] → W p0 l e rm_X5_counter s m args below meth c s.heap [] 0 0 Q (F0 m 4 ls []) := by
    intro g_4
    induction g_4 with
    | zero => intro i ls h1 h9_4; exact absurd h9_4 (Nat.not_lt_zero _)
    | succ g_4 ih_4 =>
      intro i ls h1 h9_4 hl
      refine lv_iload_n hx hb dX5_counter_4 rfl (lv_at hl 2 rfl) ?_
      refine lv_bipush (v := 32) hx hb dX5_counter_5 (by decide) ?_
      refine z_icmp_ge (tgt := 37) hx hb dX5_counter_7 (by decide) i 32 rfl rfl (by omega) (by omega) (fun c_7 => ?_) (fun c_7 => ?_)
      · -- 7 t
        refine lv_iload_n hx hb dX5_counter_37 rfl (lv_at hl 1 rfl) ?_
        exact hret 38 ls (z_cntN f i) _ dX5_counter_38 rfl rfl (congrArg Value.int (by rw [z_cntr, show 32 = i by omega]))
      · -- 7 f
        refine lv_iload_n hx hb dX5_counter_10 rfl (lv_at hl 1 rfl) ?_
        refine lv_bipush (v := 8) hx hb dX5_counter_11 (by decide) ?_
        refine lv_aload_n hx hb dX5_counter_13 rfl (lv_at hl 0 rfl) ?_
        refine va_get (D := D) (ci := 5) (v := .ref (ad 2)) (C := RX5) (T := TX5) (N := 9) hx hb hts iX5_counter_X5 hown hK hP 0 rfl rfl 2 (by decide) (hts _ qX5_counter_1) (fun _ h9 => h9) rfl dX5_counter_14 ?_
        refine lv_sipush (v := 704) hx hb dX5_counter_17 (by decide) ?_
        refine lv_iload_n hx hb dX5_counter_20 rfl (lv_at hl 2 rfl) ?_
        refine lv_iadd hx hb dX5_counter_21 ?_
        refine z_top (v := nI (704 + i)) (nI_add 704 i) ?_
        refine zVR (As := [.int (nI (704 + i))]) (rest := [.int 8, .int (z_cntN f i)]) ⟨hx, hb, hml, hown, hts⟩ (k_X0_at l D cI (ad 2) (ad 3) f p a st n k (nI (704 + i))) (cwV 1 hts gX5_counter_X0_at rfl rfl rfl (by decide +kernel) ⟨Nat.le_of_ble_eq_true rfl, Nat.le_of_ble_eq_true rfl⟩) hP hK hN [2, 3] rfl (va_recv hK hP (ci := 0) (q0 := 2) rfl rfl) rfl hl.1 rfl (Nat.le_of_ble_eq_true rfl) dX5_counter_22 ⟨Nat.zero_le _, Nat.zero_le _⟩ ?_
        refine zSR (As := [.int (z_at f (nI (704 + i)))]) (rest := [.int 8, .int (z_cntN f i)]) ⟨hx, hb, hml, hown, hts⟩ (k_J6_bitCount_0f7a4 l D cI (z_at f (nI (704 + i)))) (va_cwS 1 hts gX5_counter_J6_bitCount_0f7a4 rfl rfl rfl (by decide +kernel) ⟨Nat.le_of_ble_eq_true rfl, Nat.le_of_ble_eq_true rfl⟩) hP hK hN [] rfl rfl hl.1 rfl (Nat.le_of_ble_eq_true rfl) dX5_counter_25 ⟨Nat.zero_le _, Nat.zero_le _⟩ ?_
        refine lv_isub hx hb dX5_counter_28 ?_
        refine lv_iadd hx hb dX5_counter_29 ?_
        refine lv_istore_n (lv' := [(1, .int ((z_cntN f i) + (8 - (z_bc (z_at f (nI (704 + i))))))), (0, .ref (ad 0)), (2, .int (nI i))]) hx hb dX5_counter_30 rfl hl (by decide) rfl (fun ls hl => ?_)
        refine lv_iinc (v := (nI (i + 1))) (lv' := [(2, .int (nI (i + 1))), (1, .int ((z_cntN f i) + (8 - (z_bc (z_at f (nI (704 + i))))))), (0, .ref (ad 0))]) hx hb dX5_counter_31 hl (k := 2) rfl (z_inc _ _ rfl) (by decide) rfl (fun ls hl => ?_)
        refine lv_goto (tgt := 4) hx hb dX5_counter_34 (by decide) ?_
        exact ih_4 (i + 1) _ (by omega) (by omega) (lv_sub hl [2, 1, 0] rfl)
  exact lp_4 _ 0 _ (by omega) (Nat.lt_succ_self _) (lv_sub hl [2, 1, 0] rfl)
abbrev rm_X5_acts : Room := { frames := 0, cells := 0, slots := 0, locals := 0 }
set_option maxRecDepth 20000 in
theorem qX5_acts_1 : (Cond.fieldLink RX5 12 "FlashBoot" "flash" "LFlashBoot$Flash;" : Cond) ∈ wsX5_acts := List.mem_of_getElem? (i := 1) rfl
set_option maxRecDepth 20000 in
theorem iX5_acts_X5 : ∀ w ∈ wsX50, w ∈ wsX5_acts := by decide +kernel
set_option maxRecDepth 20000 in
theorem iX5_acts_X0 : ∀ w ∈ wsX00, w ∈ wsX5_acts := by decide +kernel
set_option maxHeartbeats 4000000 in
set_option maxRecDepth 100000 in
theorem k_X5_acts (l : Launch) (D : va_G) (cI : ClassId) (ad : Nat → Nat) (K : RW) (v : Int32) (f : RW) (p : Int32) (a : Int32) (st : Int32) (n : Int32) (k : Int32) (tb : RW) (tl : Nat) (ob : RW) (im : RW) (md : Nat) (rn : Int32)   : zMR l D cI yX5_acts wsX5_acts rm_X5_acts [.ref (ad 0)] (cW cI ad K v f p a st n k tb tl ob im md rn) (.int a) := by
  refine zEntR (cc := cX5_acts) (maxL := 1) (ret := (some .int)) (own := RX5) (lvs := [(0, .ref (ad 0))]) (by decide) rfl rfl rfl rfl (Nat.le_of_ble_eq_true rfl) rfl ?_
  intro p0 e s m args below meth c Q ls hx hb hml hts hown hP hK hN hl hret hretA
  refine lv_aload_n hx hb dX5_acts_0 rfl (lv_at hl 0 rfl) ?_
  refine va_get (D := D) (ci := 5) (v := .ref (ad 2)) (C := RX5) (T := TX5) (N := 9) hx hb hts iX5_acts_X5 hown hK hP 0 rfl rfl 2 (by decide) (hts _ qX5_acts_1) (fun _ h9 => h9) rfl dX5_acts_1 ?_
  refine va_getN (host := RX5) (D := D) (ci := 0) (v := .int a) (C := RX0) (T := TX0) (N := 6) hx hb hts iX5_acts_X0 hown hK hP 2 rfl rfl 2 (by decide) (zN_use hN 1 rfl) (fun _ h9 => h9) rfl dX5_acts_4 ?_
  exact hret 7 ls a _ dX5_acts_7 rfl rfl (congrArg Value.int (by rfl))
abbrev rm_X5_running : Room := { frames := 0, cells := 0, slots := 0, locals := 0 }
set_option maxRecDepth 20000 in
theorem qX5_running_1 : (Cond.fieldLink RX5 49 "FlashBoot" "runs" "I" : Cond) ∈ wsX5_running := List.mem_of_getElem? (i := 1) rfl
set_option maxRecDepth 20000 in
theorem iX5_running_X5 : ∀ w ∈ wsX50, w ∈ wsX5_running := by decide +kernel
set_option maxHeartbeats 4000000 in
set_option maxRecDepth 100000 in
theorem k_X5_running (l : Launch) (D : va_G) (cI : ClassId) (ad : Nat → Nat) (K : RW) (v : Int32) (f : RW) (p : Int32) (a : Int32) (st : Int32) (n : Int32) (k : Int32) (tb : RW) (tl : Nat) (ob : RW) (im : RW) (md : Nat) (rn : Int32)   : zMR l D cI yX5_running wsX5_running rm_X5_running [.ref (ad 0)] (cW cI ad K v f p a st n k tb tl ob im md rn) (.int rn) := by
  refine zEntR (cc := cX5_running) (maxL := 1) (ret := (some .int)) (own := RX5) (lvs := [(0, .ref (ad 0))]) (by decide) rfl rfl rfl rfl (Nat.le_of_ble_eq_true rfl) rfl ?_
  intro p0 e s m args below meth c Q ls hx hb hml hts hown hP hK hN hl hret hretA
  refine lv_aload_n hx hb dX5_running_0 rfl (lv_at hl 0 rfl) ?_
  refine va_get (D := D) (ci := 5) (v := .int rn) (C := RX5) (T := TX5) (N := 9) hx hb hts iX5_running_X5 hown hK hP 0 rfl rfl 8 (by decide) (hts _ qX5_running_1) (fun _ h9 => h9) rfl dX5_running_1 ?_
  exact hret 4 ls rn _ dX5_running_4 rfl rfl (congrArg Value.int (by rfl))
abbrev rm_X5_byteOf : Room := { frames := 1, cells := 0, slots := 0, locals := 21 }
set_option maxRecDepth 20000 in
theorem qX5_byteOf_1 : (Cond.fieldLink RX5 12 "FlashBoot" "flash" "LFlashBoot$Flash;" : Cond) ∈ wsX5_byteOf := List.mem_of_getElem? (i := 1) rfl
set_option maxRecDepth 20000 in
theorem iX5_byteOf_X5 : ∀ w ∈ wsX50, w ∈ wsX5_byteOf := by decide +kernel
set_option maxHeartbeats 4000000 in
set_option maxRecDepth 100000 in
theorem k_X5_byteOf (l : Launch) (D : va_G) (cI : ClassId) (ad : Nat → Nat) (K : RW) (v : Int32) (f : RW) (p : Int32) (a : Int32) (st : Int32) (n : Int32) (k : Int32) (tb : RW) (tl : Nat) (ob : RW) (im : RW) (md : Nat) (rn : Int32) (x : Int32)  : zMR l D cI yX5_byteOf wsX5_byteOf rm_X5_byteOf [.ref (ad 0), .int x] (cW cI ad K v f p a st n k tb tl ob im md rn) (.int (z_at f x)) := by
  refine zEntR (cc := cX5_byteOf) (maxL := 2) (ret := (some .int)) (own := RX5) (lvs := [(0, .ref (ad 0)), (1, .int x)]) (by decide) rfl rfl rfl rfl (Nat.le_of_ble_eq_true rfl) rfl ?_
  intro p0 e s m args below meth c Q ls hx hb hml hts hown hP hK hN hl hret hretA
  refine lv_aload_n hx hb dX5_byteOf_0 rfl (lv_at hl 0 rfl) ?_
  refine va_get (D := D) (ci := 5) (v := .ref (ad 2)) (C := RX5) (T := TX5) (N := 9) hx hb hts iX5_byteOf_X5 hown hK hP 0 rfl rfl 2 (by decide) (hts _ qX5_byteOf_1) (fun _ h9 => h9) rfl dX5_byteOf_1 ?_
  refine lv_iload_n hx hb dX5_byteOf_4 rfl (lv_at hl 1 rfl) ?_
  refine zVR (As := [.int x]) (rest := []) ⟨hx, hb, hml, hown, hts⟩ (k_X0_at l D cI (ad 2) (ad 3) f p a st n k x) (cwV 1 hts gX5_byteOf_X0_at rfl rfl rfl (by decide +kernel) ⟨Nat.le_of_ble_eq_true rfl, Nat.le_of_ble_eq_true rfl⟩) hP hK hN [2, 3] rfl (va_recv hK hP (ci := 0) (q0 := 2) rfl rfl) rfl hl.1 rfl (Nat.le_of_ble_eq_true rfl) dX5_byteOf_5 ⟨Nat.zero_le _, Nat.zero_le _⟩ ?_
  exact hret 8 ls (z_at f x) _ dX5_byteOf_8 rfl rfl (congrArg Value.int (by rfl))
abbrev rm_X5_isOld : Room := { frames := 2, cells := 0, slots := 0, locals := 43 }
set_option maxRecDepth 20000 in
theorem qX5_isOld_1 : (Cond.fieldLink RX5 49 "FlashBoot" "runs" "I" : Cond) ∈ wsX5_isOld := List.mem_of_getElem? (i := 1) rfl
set_option maxRecDepth 20000 in
theorem iX5_isOld_X5 : ∀ w ∈ wsX50, w ∈ wsX5_isOld := by decide +kernel
set_option maxRecDepth 20000 in
theorem qX5_isOld_2 : (Cond.fieldLink RX5 12 "FlashBoot" "flash" "LFlashBoot$Flash;" : Cond) ∈ wsX5_isOld := List.mem_of_getElem? (i := 2) rfl
set_option maxHeartbeats 4000000 in
set_option maxRecDepth 100000 in
theorem k_X5_isOld (l : Launch) (D : va_G) (cI : ClassId) (ad : Nat → Nat) (K : RW) (v : Int32) (f : RW) (p : Int32) (a : Int32) (st : Int32) (n : Int32) (k : Int32) (tb : RW) (tl : Nat) (ob : RW) (im : RW) (md : Nat) (rn : Int32) (x : Int32)  : zMR l D cI yX5_isOld wsX5_isOld rm_X5_isOld [.ref (ad 0), .int x] (cW cI ad K v f p a st n k tb tl ob im md rn) (.int (z_old f rn x)) := by
  refine zEntR (cc := cX5_isOld) (maxL := 2) (ret := (some .boolean)) (own := RX5) (lvs := [(0, .ref (ad 0)), (1, .int x)]) (by decide) rfl rfl rfl rfl (Nat.le_of_ble_eq_true rfl) rfl ?_
  intro p0 e s m args below meth c Q ls hx hb hml hts hown hP hK hN hl hret hretA
  refine lv_iload_n hx hb dX5_isOld_0 rfl (lv_at hl 1 rfl) ?_
  refine lv_aload_n hx hb dX5_isOld_1 rfl (lv_at hl 0 rfl) ?_
  refine zVR (As := []) (rest := [.int x]) ⟨hx, hb, hml, hown, hts⟩ (k_X5_counter l D cI ad K v f p a st n k tb tl ob im md rn) (cwV 0 hts gX5_isOld_X5_counter rfl rfl rfl (by decide +kernel) ⟨Nat.le_of_ble_eq_true rfl, Nat.le_of_ble_eq_true rfl⟩) hP hK hN [0, 1, 2, 3, 4, 5, 6, 7, 8, 9, 10, 11] rfl (va_recv hK hP (ci := 5) (q0 := 0) rfl rfl) rfl hl.1 rfl (Nat.le_of_ble_eq_true rfl) dX5_isOld_2 ⟨Nat.zero_le _, Nat.zero_le _⟩ ?_
  refine lv_icmp_le (tgt := 36) hx hb dX5_isOld_5 (by decide) (fun c_5 => ?_) (fun c_5 => ?_)
  · -- 5 t
    refine lv_iconst (v := 1) hx hb dX5_isOld_36 (by decide) ?_
    refine lv_goto (tgt := 41) hx hb dX5_isOld_37 (by decide) ?_
    exact hret 41 ls 1 _ dX5_isOld_41 rfl rfl (congrArg Value.int (by simp only [z_old, z_hd, if_pos c_5]))
  · -- 5 f
    refine lv_aload_n hx hb dX5_isOld_8 rfl (lv_at hl 0 rfl) ?_
    refine va_get (D := D) (ci := 5) (v := .int rn) (C := RX5) (T := TX5) (N := 9) hx hb hts iX5_isOld_X5 hown hK hP 0 rfl rfl 8 (by decide) (hts _ qX5_isOld_1) (fun _ h9 => h9) rfl dX5_isOld_9 ?_
    refine lv_bipush (v := (-7)) hx hb dX5_isOld_12 (by decide) ?_
    refine lv_icmp_eq (tgt := 36) hx hb dX5_isOld_14 (by decide) (fun c_14 => ?_) (fun c_14 => ?_)
    · -- 14 t
      refine lv_iconst (v := 1) hx hb dX5_isOld_36 (by decide) ?_
      refine lv_goto (tgt := 41) hx hb dX5_isOld_37 (by decide) ?_
      exact hret 41 ls 1 _ dX5_isOld_41 rfl rfl (congrArg Value.int (by simp only [z_old, z_hd, if_neg c_5, if_pos c_14]))
    · -- 14 f
      by_cases c_s : rn = 0
      · -- split 17 True
        refine lv_aload_n hx hb dX5_isOld_17 rfl (lv_at hl 0 rfl) ?_
        refine lv_aload_n hx hb dX5_isOld_18 rfl (lv_at hl 0 rfl) ?_
        refine va_get (D := D) (ci := 5) (v := .int rn) (C := RX5) (T := TX5) (N := 9) hx hb hts iX5_isOld_X5 hown hK hP 0 rfl rfl 8 (by decide) (hts _ qX5_isOld_1) (fun _ h9 => h9) rfl dX5_isOld_19 ?_
        refine zVR (As := [.int rn]) (rest := []) ⟨hx, hb, hml, hown, hts⟩ (k_X5_slot l D cI ad K v f p a st n k tb tl ob im md rn rn) (cwV 1 hts gX5_isOld_X5_slot rfl rfl rfl (by decide +kernel) ⟨Nat.le_of_ble_eq_true rfl, Nat.le_of_ble_eq_true rfl⟩) hP hK hN [0, 1, 2, 3, 4, 5, 6, 7, 8, 9, 10, 11] rfl (va_recv hK hP (ci := 5) (q0 := 0) rfl rfl) rfl hl.1 rfl (Nat.le_of_ble_eq_true rfl) dX5_isOld_22 ⟨Nat.zero_le _, Nat.zero_le _⟩ ?_
        refine z_topR (v := (ad 6)) (by rw [z_slot, if_pos c_s]) ?_
        refine lv_aload_n hx hb dX5_isOld_25 rfl (lv_at hl 0 rfl) ?_
        refine va_get (D := D) (ci := 5) (v := .ref (ad 2)) (C := RX5) (T := TX5) (N := 9) hx hb hts iX5_isOld_X5 hown hK hP 0 rfl rfl 2 (by decide) (hts _ qX5_isOld_2) (fun _ h9 => h9) rfl dX5_isOld_26 ?_
        refine zVR (As := [.ref (ad 2)]) (rest := []) ⟨hx, hb, hml, hown, hts⟩ (k_X3_sequence l D cI (ad 6) (ad 2) (ad 3) 0 0 192 f p a st n k) (cwV 1 hts gX5_isOld_X3_sequence rfl rfl rfl (by decide +kernel) ⟨Nat.le_of_ble_eq_true rfl, Nat.le_of_ble_eq_true rfl⟩) hP hK hN [6, 2, 3] rfl (va_recv hK hP (ci := 3) (q0 := 6) rfl rfl) rfl hl.1 rfl (Nat.le_of_ble_eq_true rfl) dX5_isOld_29 ⟨Nat.zero_le _, Nat.zero_le _⟩ ?_
        refine lv_iload_n hx hb dX5_isOld_32 rfl (lv_at hl 1 rfl) ?_
        refine lv_icmp_lt (tgt := 40) hx hb dX5_isOld_33 (by decide) (fun c_33 => ?_) (fun c_33 => ?_)
        · -- 33 t
          refine lv_iconst (v := 0) hx hb dX5_isOld_40 (by decide) ?_
          exact hret 41 ls 0 _ dX5_isOld_41 rfl rfl (congrArg Value.int (by simp only [z_old, z_hd, if_neg c_5, if_neg c_14, if_pos c_s, if_pos c_33]))
        · -- 33 f
          refine lv_iconst (v := 1) hx hb dX5_isOld_36 (by decide) ?_
          refine lv_goto (tgt := 41) hx hb dX5_isOld_37 (by decide) ?_
          exact hret 41 ls 1 _ dX5_isOld_41 rfl rfl (congrArg Value.int (by simp only [z_old, z_hd, if_neg c_5, if_neg c_14, if_pos c_s, if_neg c_33]))
      · -- split 17 False
        refine lv_aload_n hx hb dX5_isOld_17 rfl (lv_at hl 0 rfl) ?_
        refine lv_aload_n hx hb dX5_isOld_18 rfl (lv_at hl 0 rfl) ?_
        refine va_get (D := D) (ci := 5) (v := .int rn) (C := RX5) (T := TX5) (N := 9) hx hb hts iX5_isOld_X5 hown hK hP 0 rfl rfl 8 (by decide) (hts _ qX5_isOld_1) (fun _ h9 => h9) rfl dX5_isOld_19 ?_
        refine zVR (As := [.int rn]) (rest := []) ⟨hx, hb, hml, hown, hts⟩ (k_X5_slot l D cI ad K v f p a st n k tb tl ob im md rn rn) (cwV 1 hts gX5_isOld_X5_slot rfl rfl rfl (by decide +kernel) ⟨Nat.le_of_ble_eq_true rfl, Nat.le_of_ble_eq_true rfl⟩) hP hK hN [0, 1, 2, 3, 4, 5, 6, 7, 8, 9, 10, 11] rfl (va_recv hK hP (ci := 5) (q0 := 0) rfl rfl) rfl hl.1 rfl (Nat.le_of_ble_eq_true rfl) dX5_isOld_22 ⟨Nat.zero_le _, Nat.zero_le _⟩ ?_
        refine z_topR (v := (ad 7)) (by rw [z_slot, if_neg c_s]) ?_
        refine lv_aload_n hx hb dX5_isOld_25 rfl (lv_at hl 0 rfl) ?_
        refine va_get (D := D) (ci := 5) (v := .ref (ad 2)) (C := RX5) (T := TX5) (N := 9) hx hb hts iX5_isOld_X5 hown hK hP 0 rfl rfl 2 (by decide) (hts _ qX5_isOld_2) (fun _ h9 => h9) rfl dX5_isOld_26 ?_
        refine zVR (As := [.ref (ad 2)]) (rest := []) ⟨hx, hb, hml, hown, hts⟩ (k_X3_sequence l D cI (ad 7) (ad 2) (ad 3) 7 224 416 f p a st n k) (cwV 1 hts gX5_isOld_X3_sequence rfl rfl rfl (by decide +kernel) ⟨Nat.le_of_ble_eq_true rfl, Nat.le_of_ble_eq_true rfl⟩) hP hK hN [7, 2, 3] rfl (va_recv hK hP (ci := 3) (q0 := 7) rfl rfl) rfl hl.1 rfl (Nat.le_of_ble_eq_true rfl) dX5_isOld_29 ⟨Nat.zero_le _, Nat.zero_le _⟩ ?_
        refine lv_iload_n hx hb dX5_isOld_32 rfl (lv_at hl 1 rfl) ?_
        refine lv_icmp_lt (tgt := 40) hx hb dX5_isOld_33 (by decide) (fun c_33 => ?_) (fun c_33 => ?_)
        · -- 33 t
          refine lv_iconst (v := 0) hx hb dX5_isOld_40 (by decide) ?_
          exact hret 41 ls 0 _ dX5_isOld_41 rfl rfl (congrArg Value.int (by simp only [z_old, z_hd, if_neg c_5, if_neg c_14, if_neg c_s, if_pos c_33]))
        · -- 33 f
          refine lv_iconst (v := 1) hx hb dX5_isOld_36 (by decide) ?_
          refine lv_goto (tgt := 41) hx hb dX5_isOld_37 (by decide) ?_
          exact hret 41 ls 1 _ dX5_isOld_41 rfl rfl (congrArg Value.int (by simp only [z_old, z_hd, if_neg c_5, if_neg c_14, if_neg c_s, if_neg c_33]))
abbrev rm_X5_isOurs : Room := { frames := 3, cells := 0, slots := 0, locals := 67 }
set_option maxRecDepth 20000 in
theorem qX5_isOurs_1 : (Cond.fieldLink RX5 38 "FlashBoot" "order" "LFlashBoot$Manifest;" : Cond) ∈ wsX5_isOurs := List.mem_of_getElem? (i := 1) rfl
set_option maxRecDepth 20000 in
theorem iX5_isOurs_X5 : ∀ w ∈ wsX50, w ∈ wsX5_isOurs := by decide +kernel
set_option maxRecDepth 20000 in
theorem qX5_isOurs_2 : (Cond.fieldLink RX5 57 "FlashBoot" "keyBytes" "[I" : Cond) ∈ wsX5_isOurs := List.mem_of_getElem? (i := 2) rfl
set_option maxRecDepth 20000 in
theorem qX5_isOurs_3 : (Cond.fieldLink RX5 61 "FlashBoot" "vendorByte" "I" : Cond) ∈ wsX5_isOurs := List.mem_of_getElem? (i := 3) rfl
set_option maxHeartbeats 4000000 in
set_option maxRecDepth 100000 in
theorem k_X5_isOurs (l : Launch) (D : va_G) (cI : ClassId) (ad : Nat → Nat) (K : RW) (v : Int32) (f : RW) (p : Int32) (a : Int32) (st : Int32) (n : Int32) (k : Int32) (tb : RW) (tl : Nat) (ob : RW) (im : RW) (md : Nat) (rn : Int32)   : zMR l D cI yX5_isOurs wsX5_isOurs rm_X5_isOurs [.ref (ad 0)] (cW cI ad K v f p a st n k tb tl ob im md rn) (.int (z_ours ob K v)) := by
  refine zEntR (cc := cX5_isOurs) (maxL := 1) (ret := (some .boolean)) (own := RX5) (lvs := [(0, .ref (ad 0))]) (by decide) rfl rfl rfl rfl (Nat.le_of_ble_eq_true rfl) rfl ?_
  intro p0 e s m args below meth c Q ls hx hb hml hts hown hP hK hN hl hret hretA
  refine lv_aload_n hx hb dX5_isOurs_0 rfl (lv_at hl 0 rfl) ?_
  refine va_get (D := D) (ci := 5) (v := .ref (ad 8)) (C := RX5) (T := TX5) (N := 9) hx hb hts iX5_isOurs_X5 hown hK hP 0 rfl rfl 6 (by decide) (hts _ qX5_isOurs_1) (fun _ h9 => h9) rfl dX5_isOurs_1 ?_
  refine lv_aload_n hx hb dX5_isOurs_4 rfl (lv_at hl 0 rfl) ?_
  refine va_get (D := D) (ci := 5) (v := .ref (ad 1)) (C := RX5) (T := TX5) (N := 9) hx hb hts iX5_isOurs_X5 hown hK hP 0 rfl rfl 0 (by decide) (hts _ qX5_isOurs_2) (fun _ h9 => h9) rfl dX5_isOurs_5 ?_
  refine zVR (As := [.ref (ad 1)]) (rest := []) ⟨hx, hb, hml, hown, hts⟩ (k_X1_isTagged l D cI (ad 8) (ad 9) (ad 1) ob K) (cwV 1 hts gX5_isOurs_X1_isTagged rfl rfl rfl (by decide +kernel) ⟨Nat.le_of_ble_eq_true rfl, Nat.le_of_ble_eq_true rfl⟩) hP hK hN [8, 9, 1] rfl (va_recv hK hP (ci := 1) (q0 := 8) rfl rfl) rfl hl.1 rfl (Nat.le_of_ble_eq_true rfl) dX5_isOurs_8 ⟨Nat.zero_le _, Nat.zero_le _⟩ ?_
  refine lv_if_eq (tgt := 32) hx hb dX5_isOurs_11 (by decide) (fun c_11 => ?_) (fun c_11 => ?_)
  · -- 11 t
    refine lv_iconst (v := 0) hx hb dX5_isOurs_32 (by decide) ?_
    exact hret 33 ls 0 _ dX5_isOurs_33 rfl rfl (congrArg Value.int (by simp only [z_ours, if_pos c_11]))
  · -- 11 f
    refine lv_aload_n hx hb dX5_isOurs_14 rfl (lv_at hl 0 rfl) ?_
    refine va_get (D := D) (ci := 5) (v := .ref (ad 8)) (C := RX5) (T := TX5) (N := 9) hx hb hts iX5_isOurs_X5 hown hK hP 0 rfl rfl 6 (by decide) (hts _ qX5_isOurs_1) (fun _ h9 => h9) rfl dX5_isOurs_15 ?_
    refine zVR (As := []) (rest := []) ⟨hx, hb, hml, hown, hts⟩ (k_X1_vendor l D cI (ad 8) (ad 9) ob) (cwV 0 hts gX5_isOurs_X1_vendor rfl rfl rfl (by decide +kernel) ⟨Nat.le_of_ble_eq_true rfl, Nat.le_of_ble_eq_true rfl⟩) hP hK hN [8, 9] rfl (va_recv hK hP (ci := 1) (q0 := 8) rfl rfl) rfl hl.1 rfl (Nat.le_of_ble_eq_true rfl) dX5_isOurs_18 ⟨Nat.zero_le _, Nat.zero_le _⟩ ?_
    refine lv_aload_n hx hb dX5_isOurs_21 rfl (lv_at hl 0 rfl) ?_
    refine va_get (D := D) (ci := 5) (v := .int v) (C := RX5) (T := TX5) (N := 9) hx hb hts iX5_isOurs_X5 hown hK hP 0 rfl rfl 1 (by decide) (hts _ qX5_isOurs_3) (fun _ h9 => h9) rfl dX5_isOurs_22 ?_
    refine lv_icmp_ne (tgt := 32) hx hb dX5_isOurs_25 (by decide) (fun c_25 => ?_) (fun c_25 => ?_)
    · -- 25 t
      refine lv_iconst (v := 0) hx hb dX5_isOurs_32 (by decide) ?_
      exact hret 33 ls 0 _ dX5_isOurs_33 rfl rfl (congrArg Value.int (by simp only [z_ours, if_neg c_11, if_neg c_25]))
    · -- 25 f
      refine lv_iconst (v := 1) hx hb dX5_isOurs_28 (by decide) ?_
      refine lv_goto (tgt := 33) hx hb dX5_isOurs_29 (by decide) ?_
      exact hret 33 ls 1 _ dX5_isOurs_33 rfl rfl (congrArg Value.int (by simp only [z_ours, if_neg c_11, if_pos c_25]))
abbrev rm_X5_judgeTape : Room := { frames := 4, cells := 0, slots := 0, locals := 87 }
set_option maxRecDepth 20000 in
theorem qX5_judgeTape_1 : (Cond.fieldLink RX5 19 "FlashBoot" "tape" "LFlashBoot$Tape;" : Cond) ∈ wsX5_judgeTape := List.mem_of_getElem? (i := 1) rfl
set_option maxRecDepth 20000 in
theorem iX5_judgeTape_X5 : ∀ w ∈ wsX50, w ∈ wsX5_judgeTape := by decide +kernel
set_option maxRecDepth 20000 in
theorem iX5_judgeTape_X4 : ∀ w ∈ wsX40, w ∈ wsX5_judgeTape := by decide +kernel
set_option maxRecDepth 20000 in
theorem qX5_judgeTape_2 : (Cond.fieldLink RX5 38 "FlashBoot" "order" "LFlashBoot$Manifest;" : Cond) ∈ wsX5_judgeTape := List.mem_of_getElem? (i := 2) rfl
set_option maxRecDepth 20000 in
theorem qX5_judgeTape_3 : (Cond.fieldLink RX5 12 "FlashBoot" "flash" "LFlashBoot$Flash;" : Cond) ∈ wsX5_judgeTape := List.mem_of_getElem? (i := 3) rfl
set_option maxHeartbeats 4000000 in
set_option maxRecDepth 100000 in
theorem k_X5_judgeTape (l : Launch) (D : va_G) (cI : ClassId) (ad : Nat → Nat) (K : RW) (v : Int32) (f : RW) (p : Int32) (a : Int32) (st : Int32) (n : Int32) (k : Int32) (tb : RW) (tl : Nat) (ob : RW) (im : RW) (md : Nat) (rn : Int32)  (htl : tl ≤ 192) : zMW (S := Int32 × RW) l D cI yX5_judgeTape wsX5_judgeTape rm_X5_judgeTape [.ref (ad 0)] (cW cI ad K v f p a st n k tb tl ob im md rn) (z_judge K v f rn tb tl ob) (fun u => some (.int u.1)) (fun u => cW cI ad K v f p a st n k tb tl u.2 im md rn) := by
  refine zEntW (cc := cX5_judgeTape) (maxL := 1) (ret := (some .int)) (own := RX5) (lvs := [(0, .ref (ad 0))]) (by decide) rfl rfl (Nat.le_of_ble_eq_true rfl) rfl ?_
  intro p0 e s m args below meth c Q ls A hx hb hml hts hown hP hK hN hD hS hA hl hret hretV
  refine lv_aload_n hx hb dX5_judgeTape_0 rfl (lv_at hl 0 rfl) ?_
  refine va_get (D := D) (ci := 5) (v := .ref (ad 4)) (C := RX5) (T := TX5) (N := 9) hx hb hts iX5_judgeTape_X5 hown hK hP 0 rfl rfl 3 (by decide) (hts _ qX5_judgeTape_1) (fun _ h9 => h9) rfl dX5_judgeTape_1 ?_
  refine va_getN (host := RX5) (D := D) (ci := 4) (v := .int (nI tl)) (C := RX4) (T := TX4) (N := 2) hx hb hts iX5_judgeTape_X4 hown hK hP 4 rfl rfl 1 (by decide) (zN_use hN 5 rfl) (fun _ h9 => h9) rfl dX5_judgeTape_4 ?_
  refine lv_bipush (v := 20) hx hb dX5_judgeTape_7 (by decide) ?_
  refine z_icmp_eq (tgt := 14) hx hb dX5_judgeTape_9 (by decide) tl 20 rfl rfl (by omega) (by omega) (fun c_9 => ?_) (fun c_9 => ?_)
  · -- 9 t
    refine lv_aload_n hx hb dX5_judgeTape_14 rfl (lv_at hl 0 rfl) ?_
    refine va_get (D := D) (ci := 5) (v := .ref (ad 8)) (C := RX5) (T := TX5) (N := 9) hx hb hts iX5_judgeTape_X5 hown hK hP 0 rfl rfl 6 (by decide) (hts _ qX5_judgeTape_2) (fun _ h9 => h9) rfl dX5_judgeTape_15 ?_
    refine lv_aload_n hx hb dX5_judgeTape_18 rfl (lv_at hl 0 rfl) ?_
    refine va_get (D := D) (ci := 5) (v := .ref (ad 4)) (C := RX5) (T := TX5) (N := 9) hx hb hts iX5_judgeTape_X5 hown hK hP 0 rfl rfl 3 (by decide) (hts _ qX5_judgeTape_1) (fun _ h9 => h9) rfl dX5_judgeTape_19 ?_
    refine zVW (ws' := fun u => cW cI ad K v f p a st n k tb tl u im md rn) (As := [.ref (ad 4)]) (rest := []) ⟨hx, hb, hml, hown, hts⟩ (k_X1_readTape l D cI (ad 8) (ad 9) (ad 4) (ad 5) ob tb tl) (cwV 1 hts gX5_judgeTape_X1_readTape rfl rfl rfl (by decide +kernel) ⟨Nat.le_of_ble_eq_true rfl, Nat.le_of_ble_eq_true rfl⟩) hP hK hN hD hS hA [8, 9, 4, 5] [0, 1, 2, 3, 6, 7, 10, 11] [((ad 0), .inr (5, [.ref (ad 1), .int v, .ref (ad 2), .ref (ad 4), .ref (ad 6), .ref (ad 7), .ref (ad 8), .ref (ad 10), .int rn])), ((ad 1), .inl (cI, 8, .inl K)), ((ad 2), .inr (0, [.ref (ad 3), .int p, .int a, .int st, .int n, .int k])), ((ad 3), .inl (cI, 768, .inl f)), ((ad 6), .inr (3, [.int 0, .int 0, .int 192])), ((ad 7), .inr (3, [.int 7, .int 224, .int 416])), ((ad 10), .inr (2, [.ref (ad 11), .int (nI md)])), ((ad 11), .inl (cI, 192, .inl im))] rfl (by decide) rfl (fun _ => rfl) (fun _ => rfl) (fun _ => rfl) rfl (va_recv hK hP (ci := 1) (q0 := 8) rfl rfl) rfl hl.1 rfl (Nat.le_of_ble_eq_true rfl) dX5_judgeTape_22 ⟨Nat.zero_le _, Nat.zero_le _⟩ (fun u_22 H locs hu_22 hP hD hS => ?_)
    obtain ⟨ob_22, rfl⟩ : ∃ z, z = u_22 := ⟨_, rfl⟩
    have hP : va_P D vwCl (cW cI ad K v f p a st n k tb tl ob_22 im md rn) _ := hP
    have hD : va_D A (cW cI ad K v f p a st n k tb tl ob_22 im md rn) := hD
    refine W.eq (g2 := F0 m 25 ls []) rfl ?_
    refine lv_aload_n hx hb dX5_judgeTape_25 rfl (lv_at hl 0 rfl) ?_
    refine va_get (D := D) (ci := 5) (v := .ref (ad 8)) (C := RX5) (T := TX5) (N := 9) hx hb hts iX5_judgeTape_X5 hown hK hP 0 rfl rfl 6 (by decide) (hts _ qX5_judgeTape_2) (fun _ h9 => h9) rfl dX5_judgeTape_26 ?_
    refine zVR (As := []) (rest := []) ⟨hx, hb, hml, hown, hts⟩ (k_X1_isInRange l D cI (ad 8) (ad 9) ob_22) (cwV 0 hts gX5_judgeTape_X1_isInRange rfl rfl rfl (by decide +kernel) ⟨Nat.le_of_ble_eq_true rfl, Nat.le_of_ble_eq_true rfl⟩) hP hK hN [8, 9] rfl (va_recv hK hP (ci := 1) (q0 := 8) rfl rfl) rfl hl.1 rfl (Nat.le_of_ble_eq_true rfl) dX5_judgeTape_29 ⟨Nat.zero_le _, Nat.zero_le _⟩ ?_
    refine lv_if_ne (tgt := 37) hx hb dX5_judgeTape_32 (by decide) (fun c_32 => ?_) (fun c_32 => ?_)
    · -- 32 t
      refine lv_aload_n hx hb dX5_judgeTape_37 rfl (lv_at hl 0 rfl) ?_
      refine zVR (As := []) (rest := []) ⟨hx, hb, hml, hown, hts⟩ (k_X5_isOurs l D cI ad K v f p a st n k tb tl ob_22 im md rn) (cwV 0 hts gX5_judgeTape_X5_isOurs rfl rfl rfl (by decide +kernel) ⟨Nat.le_of_ble_eq_true rfl, Nat.le_of_ble_eq_true rfl⟩) hP hK hN [0, 1, 2, 3, 4, 5, 6, 7, 8, 9, 10, 11] rfl (va_recv hK hP (ci := 5) (q0 := 0) rfl rfl) rfl hl.1 rfl (Nat.le_of_ble_eq_true rfl) dX5_judgeTape_38 ⟨Nat.zero_le _, Nat.zero_le _⟩ ?_
      refine lv_if_ne (tgt := 47) hx hb dX5_judgeTape_41 (by decide) (fun c_41 => ?_) (fun c_41 => ?_)
      · -- 41 t
        refine lv_aload_n hx hb dX5_judgeTape_47 rfl (lv_at hl 0 rfl) ?_
        refine lv_aload_n hx hb dX5_judgeTape_48 rfl (lv_at hl 0 rfl) ?_
        refine va_get (D := D) (ci := 5) (v := .ref (ad 8)) (C := RX5) (T := TX5) (N := 9) hx hb hts iX5_judgeTape_X5 hown hK hP 0 rfl rfl 6 (by decide) (hts _ qX5_judgeTape_2) (fun _ h9 => h9) rfl dX5_judgeTape_49 ?_
        refine zVR (As := []) (rest := [.ref (ad 0)]) ⟨hx, hb, hml, hown, hts⟩ (k_X1_sequence l D cI (ad 8) (ad 9) ob_22) (cwV 0 hts gX5_judgeTape_X1_sequence rfl rfl rfl (by decide +kernel) ⟨Nat.le_of_ble_eq_true rfl, Nat.le_of_ble_eq_true rfl⟩) hP hK hN [8, 9] rfl (va_recv hK hP (ci := 1) (q0 := 8) rfl rfl) rfl hl.1 rfl (Nat.le_of_ble_eq_true rfl) dX5_judgeTape_52 ⟨Nat.zero_le _, Nat.zero_le _⟩ ?_
        refine zVR (As := [.int (ob_22 1)]) (rest := []) ⟨hx, hb, hml, hown, hts⟩ (k_X5_isOld l D cI ad K v f p a st n k tb tl ob_22 im md rn (ob_22 1)) (cwV 1 hts gX5_judgeTape_X5_isOld rfl rfl rfl (by decide +kernel) ⟨Nat.le_of_ble_eq_true rfl, Nat.le_of_ble_eq_true rfl⟩) hP hK hN [0, 1, 2, 3, 4, 5, 6, 7, 8, 9, 10, 11] rfl (va_recv hK hP (ci := 5) (q0 := 0) rfl rfl) rfl hl.1 rfl (Nat.le_of_ble_eq_true rfl) dX5_judgeTape_55 ⟨Nat.zero_le _, Nat.zero_le _⟩ ?_
        refine lv_if_eq (tgt := 64) hx hb dX5_judgeTape_58 (by decide) (fun c_58 => ?_) (fun c_58 => ?_)
        · -- 58 t
          refine lv_aload_n hx hb dX5_judgeTape_64 rfl (lv_at hl 0 rfl) ?_
          refine va_get (D := D) (ci := 5) (v := .ref (ad 8)) (C := RX5) (T := TX5) (N := 9) hx hb hts iX5_judgeTape_X5 hown hK hP 0 rfl rfl 6 (by decide) (hts _ qX5_judgeTape_2) (fun _ h9 => h9) rfl dX5_judgeTape_65 ?_
          refine lv_aload_n hx hb dX5_judgeTape_68 rfl (lv_at hl 0 rfl) ?_
          refine va_get (D := D) (ci := 5) (v := .ref (ad 2)) (C := RX5) (T := TX5) (N := 9) hx hb hts iX5_judgeTape_X5 hown hK hP 0 rfl rfl 2 (by decide) (hts _ qX5_judgeTape_3) (fun _ h9 => h9) rfl dX5_judgeTape_69 ?_
          refine zVR (As := [.ref (ad 2)]) (rest := []) ⟨hx, hb, hml, hown, hts⟩ (k_X1_standsIn l D cI (ad 8) (ad 9) (ad 2) (ad 3) ob_22 f p a st n k) (cwV 1 hts gX5_judgeTape_X1_standsIn rfl rfl rfl (by decide +kernel) ⟨Nat.le_of_ble_eq_true rfl, Nat.le_of_ble_eq_true rfl⟩) hP hK hN [8, 9, 2, 3] rfl (va_recv hK hP (ci := 1) (q0 := 8) rfl rfl) rfl hl.1 rfl (Nat.le_of_ble_eq_true rfl) dX5_judgeTape_72 ⟨Nat.zero_le _, Nat.zero_le _⟩ ?_
          refine lv_if_eq (tgt := 82) hx hb dX5_judgeTape_75 (by decide) (fun c_75 => ?_) (fun c_75 => ?_)
          · -- 75 t
            refine lv_iconst (v := 0) hx hb dX5_judgeTape_82 (by decide) ?_
            exact hret 83 ls _ _ (0, ob_22) 0 _ dX5_judgeTape_83 rfl rfl rfl (by simp only [z_judge, z_judge2, ← hu_22, if_pos c_9, if_neg c_32, if_neg c_41, if_pos c_58, if_pos c_75]) hP hS
          · -- 75 f
            refine lv_iconst (v := 1) hx hb dX5_judgeTape_78 (by decide) ?_
            refine lv_goto (tgt := 83) hx hb dX5_judgeTape_79 (by decide) ?_
            exact hret 83 ls _ _ (1, ob_22) 1 _ dX5_judgeTape_83 rfl rfl rfl (by simp only [z_judge, z_judge2, ← hu_22, if_pos c_9, if_neg c_32, if_neg c_41, if_pos c_58, if_neg c_75]) hP hS
        · -- 58 f
          refine lv_bipush (v := (-3)) hx hb dX5_judgeTape_61 (by decide) ?_
          exact hret 63 ls _ _ ((-3), ob_22) (-3) _ dX5_judgeTape_63 rfl rfl rfl (by simp only [z_judge, z_judge2, ← hu_22, if_pos c_9, if_neg c_32, if_neg c_41, if_neg c_58]) hP hS
      · -- 41 f
        refine lv_bipush (v := (-4)) hx hb dX5_judgeTape_44 (by decide) ?_
        exact hret 46 ls _ _ ((-4), ob_22) (-4) _ dX5_judgeTape_46 rfl rfl rfl (by simp only [z_judge, z_judge2, ← hu_22, if_pos c_9, if_neg c_32, if_pos c_41]) hP hS
    · -- 32 f
      refine lv_iconst (v := (-1)) hx hb dX5_judgeTape_35 (by decide) ?_
      exact hret 36 ls _ _ ((-1), ob_22) (-1) _ dX5_judgeTape_36 rfl rfl rfl (by simp only [z_judge, z_judge2, ← hu_22, if_pos c_9, if_pos c_32]) hP hS
  · -- 9 f
    refine lv_iconst (v := (-1)) hx hb dX5_judgeTape_12 (by decide) ?_
    exact hret 13 ls _ _ ((-1), ob) (-1) _ dX5_judgeTape_13 rfl rfl rfl (by simp only [z_judge, z_judge2, if_neg c_9]) hP hS
abbrev rm_X5_stageAnew : Room := { frames := 3, cells := 0, slots := 0, locals := 67 }
set_option maxRecDepth 20000 in
theorem qX5_stageAnew_1 : (Cond.fieldLink RX5 12 "FlashBoot" "flash" "LFlashBoot$Flash;" : Cond) ∈ wsX5_stageAnew := List.mem_of_getElem? (i := 1) rfl
set_option maxRecDepth 20000 in
theorem iX5_stageAnew_X5 : ∀ w ∈ wsX50, w ∈ wsX5_stageAnew := by decide +kernel
set_option maxRecDepth 20000 in
theorem qX5_stageAnew_2 : (Cond.fieldLink RX5 38 "FlashBoot" "order" "LFlashBoot$Manifest;" : Cond) ∈ wsX5_stageAnew := List.mem_of_getElem? (i := 2) rfl
set_option maxRecDepth 20000 in
theorem iX5_stageAnew_X1 : ∀ w ∈ wsX10, w ∈ wsX5_stageAnew := by decide +kernel
set_option maxHeartbeats 4000000 in
set_option maxRecDepth 100000 in
theorem k_X5_stageAnew (l : Launch) (D : va_G) (cI : ClassId) (ad : Nat → Nat) (K : RW) (v : Int32) (f : RW) (p : Int32) (a : Int32) (st : Int32) (n : Int32) (k : Int32) (tb : RW) (tl : Nat) (ob : RW) (im : RW) (md : Nat) (rn : Int32)   : zMW (S := RW × Int32 × Int32 × Int32 × Int32 × Int32) l D cI yX5_stageAnew wsX5_stageAnew rm_X5_stageAnew [.ref (ad 0)] (cW cI ad K v f p a st n k tb tl ob im md rn) (z_stage ob (f, p, a, st, n, k)) (fun _ => none) (fun u => cW cI ad K v u.1 u.2.1 u.2.2.1 u.2.2.2.1 u.2.2.2.2.1 u.2.2.2.2.2 tb tl ob im md rn) := by
  refine zEntW (cc := cX5_stageAnew) (maxL := 2) (ret := none) (own := RX5) (lvs := [(0, .ref (ad 0))]) (by decide) rfl rfl (Nat.le_of_ble_eq_true rfl) rfl ?_
  intro p0 e s m args below meth c Q ls A hx hb hml hts hown hP hK hN hD hS hA hl hret hretV
  refine lv_aload_n hx hb dX5_stageAnew_0 rfl (lv_at hl 0 rfl) ?_
  refine va_get (D := D) (ci := 5) (v := .ref (ad 2)) (C := RX5) (T := TX5) (N := 9) hx hb hts iX5_stageAnew_X5 hown hK hP 0 rfl rfl 2 (by decide) (hts _ qX5_stageAnew_1) (fun _ h9 => h9) rfl dX5_stageAnew_1 ?_
  refine lv_bipush (v := 21) hx hb dX5_stageAnew_4 (by decide) ?_
  refine zVW (ws' := fun u => cW cI ad K v u.1 u.2.1 u.2.2.1 u.2.2.2.1 u.2.2.2.2.1 u.2.2.2.2.2 tb tl ob im md rn) (As := [.int 21]) (rest := []) ⟨hx, hb, hml, hown, hts⟩ (k_X0_erase l D cI (ad 2) (ad 3) f p a st n k 21 (by omega)) (cwV 1 hts gX5_stageAnew_X0_erase rfl rfl rfl (by decide +kernel) ⟨Nat.le_of_ble_eq_true rfl, Nat.le_of_ble_eq_true rfl⟩) hP hK hN hD hS hA [2, 3] [0, 1, 4, 5, 6, 7, 8, 9, 10, 11] [((ad 0), .inr (5, [.ref (ad 1), .int v, .ref (ad 2), .ref (ad 4), .ref (ad 6), .ref (ad 7), .ref (ad 8), .ref (ad 10), .int rn])), ((ad 1), .inl (cI, 8, .inl K)), ((ad 4), .inr (4, [.ref (ad 5), .int (nI tl)])), ((ad 5), .inl (cI, 192, .inl tb)), ((ad 6), .inr (3, [.int 0, .int 0, .int 192])), ((ad 7), .inr (3, [.int 7, .int 224, .int 416])), ((ad 8), .inr (1, [.ref (ad 9)])), ((ad 9), .inl (cI, 20, .inl ob)), ((ad 10), .inr (2, [.ref (ad 11), .int (nI md)])), ((ad 11), .inl (cI, 192, .inl im))] rfl (by decide) rfl (fun _ => rfl) (fun _ => rfl) (fun _ => rfl) rfl (va_recv hK hP (ci := 0) (q0 := 2) rfl rfl) rfl hl.1 rfl (Nat.le_of_ble_eq_true rfl) dX5_stageAnew_6 ⟨Nat.zero_le _, Nat.zero_le _⟩ (fun u_6 H locs hu_6 hP hD hS => ?_)
  obtain ⟨f_6, p_6, a_6, st_6, n_6, k_6⟩ := u_6
  have hP : va_P D vwCl (cW cI ad K v f_6 p_6 a_6 st_6 n_6 k_6 tb tl ob im md rn) _ := hP
  have hD : va_D A (cW cI ad K v f_6 p_6 a_6 st_6 n_6 k_6 tb tl ob im md rn) := hD
  refine W.eq (g2 := F0 m 9 ls []) rfl ?_
  refine lv_aload_n hx hb dX5_stageAnew_9 rfl (lv_at hl 0 rfl) ?_
  refine va_get (D := D) (ci := 5) (v := .ref (ad 2)) (C := RX5) (T := TX5) (N := 9) hx hb hts iX5_stageAnew_X5 hown hK hP 0 rfl rfl 2 (by decide) (hts _ qX5_stageAnew_1) (fun _ h9 => h9) rfl dX5_stageAnew_10 ?_
  refine lv_bipush (v := 20) hx hb dX5_stageAnew_13 (by decide) ?_
  refine zVW (ws' := fun u => cW cI ad K v u.1 u.2.1 u.2.2.1 u.2.2.2.1 u.2.2.2.2.1 u.2.2.2.2.2 tb tl ob im md rn) (As := [.int 20]) (rest := []) ⟨hx, hb, hml, hown, hts⟩ (k_X0_erase l D cI (ad 2) (ad 3) f_6 p_6 a_6 st_6 n_6 k_6 20 (by omega)) (cwV 1 hts gX5_stageAnew_X0_erase rfl rfl rfl (by decide +kernel) ⟨Nat.le_of_ble_eq_true rfl, Nat.le_of_ble_eq_true rfl⟩) hP hK hN hD hS hA [2, 3] [0, 1, 4, 5, 6, 7, 8, 9, 10, 11] [((ad 0), .inr (5, [.ref (ad 1), .int v, .ref (ad 2), .ref (ad 4), .ref (ad 6), .ref (ad 7), .ref (ad 8), .ref (ad 10), .int rn])), ((ad 1), .inl (cI, 8, .inl K)), ((ad 4), .inr (4, [.ref (ad 5), .int (nI tl)])), ((ad 5), .inl (cI, 192, .inl tb)), ((ad 6), .inr (3, [.int 0, .int 0, .int 192])), ((ad 7), .inr (3, [.int 7, .int 224, .int 416])), ((ad 8), .inr (1, [.ref (ad 9)])), ((ad 9), .inl (cI, 20, .inl ob)), ((ad 10), .inr (2, [.ref (ad 11), .int (nI md)])), ((ad 11), .inl (cI, 192, .inl im))] rfl (by decide) rfl (fun _ => rfl) (fun _ => rfl) (fun _ => rfl) rfl (va_recv hK hP (ci := 0) (q0 := 2) rfl rfl) rfl hl.1 rfl (Nat.le_of_ble_eq_true rfl) dX5_stageAnew_15 ⟨Nat.zero_le _, Nat.zero_le _⟩ (fun u_15 H locs hu_15 hP hD hS => ?_)
  obtain ⟨f_15, p_15, a_15, st_15, n_15, k_15⟩ := u_15
  have hP : va_P D vwCl (cW cI ad K v f_15 p_15 a_15 st_15 n_15 k_15 tb tl ob im md rn) _ := hP
  have hD : va_D A (cW cI ad K v f_15 p_15 a_15 st_15 n_15 k_15 tb tl ob im md rn) := hD
  refine W.eq (g2 := F0 m 18 ls []) rfl ?_
  refine lv_bipush (v := 14) hx hb dX5_stageAnew_18 (by decide) ?_
  refine lv_istore_n (lv' := [(1, .int 14), (0, .ref (ad 0))]) hx hb dX5_stageAnew_20 rfl hl (by decide) rfl (fun ls hl => ?_)
  have lp_21 : ∀ (g_21 : Nat) (i : Nat) (f9 : RW) (p9 : Int32) (a9 : Int32) (s9 : Int32) (n9 : Int32) (k9 : Int32) (H : Heap) (locs : List Loc) (ls : Array Slot), i ≤ 6 → (f9, p9, a9, s9, n9, k9) = z_eStN (z_erase 20 (z_erase 21 (f, p, a, st, n, k))) i → 6 - i < g_21 → va_P D vwCl (cW cI ad K v f9 p9 a9 s9 n9 k9 tb tl ob im md rn) H → va_D A (cW cI ad K v f9 p9 a9 s9 n9 k9 tb tl ob im md rn) → va_S A s.heap H locs → lv_has ls 2 [(0, .ref (ad 0)), (1, .int (nI (14 + i)))] → W p0 l e rm_X5_stageAnew s m args below meth c H locs 0 0 Q (F0 m 21 ls []) := by
    intro g_21
    induction g_21 with
    | zero => intro i f9 p9 a9 s9 n9 k9 H locs ls h1 hy h9_21; exact absurd h9_21 (Nat.not_lt_zero _)
    | succ g_21 ih_21 =>
      intro i f9 p9 a9 s9 n9 k9 H locs ls h1 hy h9_21 hP hD hS hl
      refine lv_iload_n hx hb dX5_stageAnew_21 rfl (lv_at hl 1 rfl) ?_
      refine lv_bipush (v := 20) hx hb dX5_stageAnew_22 (by decide) ?_
      refine z_icmp_ge (tgt := 41) hx hb dX5_stageAnew_24 (by decide) (14 + i) 20 rfl rfl (by omega) (by omega) (fun c_24 => ?_) (fun c_24 => ?_)
      · -- 24 t
        refine lv_aload_n hx hb dX5_stageAnew_41 rfl (lv_at hl 0 rfl) ?_
        refine va_get (D := D) (ci := 5) (v := .ref (ad 2)) (C := RX5) (T := TX5) (N := 9) hx hb hts iX5_stageAnew_X5 hown hK hP 0 rfl rfl 2 (by decide) (hts _ qX5_stageAnew_1) (fun _ h9 => h9) rfl dX5_stageAnew_42 ?_
        refine lv_sipush (v := 640) hx hb dX5_stageAnew_45 (by decide) ?_
        refine lv_aload_n hx hb dX5_stageAnew_48 rfl (lv_at hl 0 rfl) ?_
        refine va_get (D := D) (ci := 5) (v := .ref (ad 8)) (C := RX5) (T := TX5) (N := 9) hx hb hts iX5_stageAnew_X5 hown hK hP 0 rfl rfl 6 (by decide) (hts _ qX5_stageAnew_2) (fun _ h9 => h9) rfl dX5_stageAnew_49 ?_
        refine va_getN (host := RX5) (D := D) (ci := 1) (v := .ref (ad 9)) (C := RX1) (T := TX1) (N := 1) hx hb hts iX5_stageAnew_X1 hown hK hP 8 rfl rfl 0 (by decide) (zN_use hN 8 rfl) (fun _ h9 => h9) rfl dX5_stageAnew_52 ?_
        refine lv_bipush (v := 20) hx hb dX5_stageAnew_55 (by decide) ?_
        refine zVW (ws' := fun u => cW cI ad K v u.1 u.2.1 u.2.2.1 u.2.2.2.1 u.2.2.2.2.1 u.2.2.2.2.2 tb tl ob im md rn) (As := [.int 640, .ref (ad 9), .int 20]) (rest := []) ⟨hx, hb, hml, hown, hts⟩ (k_X0_programRow l D cI (ad 2) (ad 3) (ad 9) f9 p9 a9 s9 n9 k9 ob 20 640 20 (by omega)) (cwV 3 hts gX5_stageAnew_X0_programRow rfl rfl rfl (by decide +kernel) ⟨Nat.le_of_ble_eq_true rfl, Nat.le_of_ble_eq_true rfl⟩) hP hK hN hD hS hA [2, 3, 9] [0, 1, 4, 5, 6, 7, 8, 10, 11] [((ad 0), .inr (5, [.ref (ad 1), .int v, .ref (ad 2), .ref (ad 4), .ref (ad 6), .ref (ad 7), .ref (ad 8), .ref (ad 10), .int rn])), ((ad 1), .inl (cI, 8, .inl K)), ((ad 4), .inr (4, [.ref (ad 5), .int (nI tl)])), ((ad 5), .inl (cI, 192, .inl tb)), ((ad 6), .inr (3, [.int 0, .int 0, .int 192])), ((ad 7), .inr (3, [.int 7, .int 224, .int 416])), ((ad 8), .inr (1, [.ref (ad 9)])), ((ad 10), .inr (2, [.ref (ad 11), .int (nI md)])), ((ad 11), .inl (cI, 192, .inl im))] rfl (by decide) rfl (fun _ => rfl) (fun _ => rfl) (fun _ => rfl) rfl (va_recv hK hP (ci := 0) (q0 := 2) rfl rfl) rfl hl.1 rfl (Nat.le_of_ble_eq_true rfl) dX5_stageAnew_57 ⟨Nat.zero_le _, Nat.zero_le _⟩ (fun u_57 H locs hu_57 hP hD hS => ?_)
        obtain ⟨f_57, p_57, a_57, st_57, n_57, k_57⟩ := u_57
        have hP : va_P D vwCl (cW cI ad K v f_57 p_57 a_57 st_57 n_57 k_57 tb tl ob im md rn) _ := hP
        have hD : va_D A (cW cI ad K v f_57 p_57 a_57 st_57 n_57 k_57 tb tl ob im md rn) := hD
        refine W.eq (g2 := F0 m 60 ls []) rfl ?_
        exact hretV 60 ls _ _ (f_57, p_57, a_57, st_57, n_57, k_57) dX5_stageAnew_60 rfl rfl (by rw [z_stage, show 6 = i by omega, ← hy]; exact hu_57) hP hS
      · -- 24 f
        refine lv_aload_n hx hb dX5_stageAnew_27 rfl (lv_at hl 0 rfl) ?_
        refine va_get (D := D) (ci := 5) (v := .ref (ad 2)) (C := RX5) (T := TX5) (N := 9) hx hb hts iX5_stageAnew_X5 hown hK hP 0 rfl rfl 2 (by decide) (hts _ qX5_stageAnew_1) (fun _ h9 => h9) rfl dX5_stageAnew_28 ?_
        refine lv_iload_n hx hb dX5_stageAnew_31 rfl (lv_at hl 1 rfl) ?_
        refine zVW (ws' := fun u => cW cI ad K v u.1 u.2.1 u.2.2.1 u.2.2.2.1 u.2.2.2.2.1 u.2.2.2.2.2 tb tl ob im md rn) (As := [.int (nI (14 + i))]) (rest := []) ⟨hx, hb, hml, hown, hts⟩ (k_X0_erase l D cI (ad 2) (ad 3) f9 p9 a9 s9 n9 k9 (14 + i) (by omega)) (cwV 1 hts gX5_stageAnew_X0_erase rfl rfl rfl (by decide +kernel) ⟨Nat.le_of_ble_eq_true rfl, Nat.le_of_ble_eq_true rfl⟩) hP hK hN hD hS hA [2, 3] [0, 1, 4, 5, 6, 7, 8, 9, 10, 11] [((ad 0), .inr (5, [.ref (ad 1), .int v, .ref (ad 2), .ref (ad 4), .ref (ad 6), .ref (ad 7), .ref (ad 8), .ref (ad 10), .int rn])), ((ad 1), .inl (cI, 8, .inl K)), ((ad 4), .inr (4, [.ref (ad 5), .int (nI tl)])), ((ad 5), .inl (cI, 192, .inl tb)), ((ad 6), .inr (3, [.int 0, .int 0, .int 192])), ((ad 7), .inr (3, [.int 7, .int 224, .int 416])), ((ad 8), .inr (1, [.ref (ad 9)])), ((ad 9), .inl (cI, 20, .inl ob)), ((ad 10), .inr (2, [.ref (ad 11), .int (nI md)])), ((ad 11), .inl (cI, 192, .inl im))] rfl (by decide) rfl (fun _ => rfl) (fun _ => rfl) (fun _ => rfl) rfl (va_recv hK hP (ci := 0) (q0 := 2) rfl rfl) rfl hl.1 rfl (Nat.le_of_ble_eq_true rfl) dX5_stageAnew_32 ⟨Nat.zero_le _, Nat.zero_le _⟩ (fun u_32 H locs hu_32 hP hD hS => ?_)
        obtain ⟨f_32, p_32, a_32, st_32, n_32, k_32⟩ := u_32
        have hP : va_P D vwCl (cW cI ad K v f_32 p_32 a_32 st_32 n_32 k_32 tb tl ob im md rn) _ := hP
        have hD : va_D A (cW cI ad K v f_32 p_32 a_32 st_32 n_32 k_32 tb tl ob im md rn) := hD
        refine W.eq (g2 := F0 m 35 ls []) rfl ?_
        refine lv_iinc (v := (nI ((14 + i) + 1))) (lv' := [(1, .int (nI ((14 + i) + 1))), (0, .ref (ad 0))]) hx hb dX5_stageAnew_35 hl (k := 1) rfl (z_inc _ _ rfl) (by decide) rfl (fun ls hl => ?_)
        refine lv_goto (tgt := 21) hx hb dX5_stageAnew_38 (by decide) ?_
        exact ih_21 (i + 1) f_32 p_32 a_32 st_32 n_32 k_32 _ _ _ (by omega) (by rw [hu_32, z_eStN, ← hy]) (by omega) hP hD hS (lv_sub hl [1, 0] rfl)
  exact lp_21 _ 0 f_15 p_15 a_15 st_15 n_15 k_15 _ _ _ (by omega) (by rw [z_eStN, ← hu_6, ← hu_15]) (Nat.lt_succ_self _) hP hD hS (lv_sub hl [1, 0] rfl)
abbrev rm_X5_readStagedManifest : Room := { frames := 4, cells := 0, slots := 0, locals := 87 }
set_option maxRecDepth 20000 in
theorem qX5_readStagedManifest_1 : (Cond.fieldLink RX5 38 "FlashBoot" "order" "LFlashBoot$Manifest;" : Cond) ∈ wsX5_readStagedManifest := List.mem_of_getElem? (i := 1) rfl
set_option maxRecDepth 20000 in
theorem iX5_readStagedManifest_X5 : ∀ w ∈ wsX50, w ∈ wsX5_readStagedManifest := by decide +kernel
set_option maxRecDepth 20000 in
theorem qX5_readStagedManifest_2 : (Cond.fieldLink RX5 12 "FlashBoot" "flash" "LFlashBoot$Flash;" : Cond) ∈ wsX5_readStagedManifest := List.mem_of_getElem? (i := 2) rfl
set_option maxHeartbeats 4000000 in
set_option maxRecDepth 100000 in
theorem k_X5_readStagedManifest (l : Launch) (D : va_G) (cI : ClassId) (ad : Nat → Nat) (K : RW) (v : Int32) (f : RW) (p : Int32) (a : Int32) (st : Int32) (n : Int32) (k : Int32) (tb : RW) (tl : Nat) (ob : RW) (im : RW) (md : Nat) (rn : Int32)   : zMW (S := Int32 × RW) l D cI yX5_readStagedManifest wsX5_readStagedManifest rm_X5_readStagedManifest [.ref (ad 0)] (cW cI ad K v f p a st n k tb tl ob im md rn) (z_rsm K v f ob) (fun u => some (.int u.1)) (fun u => cW cI ad K v f p a st n k tb tl u.2 im md rn) := by
  refine zEntW (cc := cX5_readStagedManifest) (maxL := 1) (ret := (some .boolean)) (own := RX5) (lvs := [(0, .ref (ad 0))]) (by decide) rfl rfl (Nat.le_of_ble_eq_true rfl) rfl ?_
  intro p0 e s m args below meth c Q ls A hx hb hml hts hown hP hK hN hD hS hA hl hret hretV
  refine lv_aload_n hx hb dX5_readStagedManifest_0 rfl (lv_at hl 0 rfl) ?_
  refine va_get (D := D) (ci := 5) (v := .ref (ad 8)) (C := RX5) (T := TX5) (N := 9) hx hb hts iX5_readStagedManifest_X5 hown hK hP 0 rfl rfl 6 (by decide) (hts _ qX5_readStagedManifest_1) (fun _ h9 => h9) rfl dX5_readStagedManifest_1 ?_
  refine lv_aload_n hx hb dX5_readStagedManifest_4 rfl (lv_at hl 0 rfl) ?_
  refine va_get (D := D) (ci := 5) (v := .ref (ad 2)) (C := RX5) (T := TX5) (N := 9) hx hb hts iX5_readStagedManifest_X5 hown hK hP 0 rfl rfl 2 (by decide) (hts _ qX5_readStagedManifest_2) (fun _ h9 => h9) rfl dX5_readStagedManifest_5 ?_
  refine zVW (ws' := fun u => cW cI ad K v f p a st n k tb tl u im md rn) (As := [.ref (ad 2)]) (rest := []) ⟨hx, hb, hml, hown, hts⟩ (k_X1_readPage l D cI (ad 8) (ad 9) (ad 2) (ad 3) ob f p a st n k) (cwV 1 hts gX5_readStagedManifest_X1_readPage rfl rfl rfl (by decide +kernel) ⟨Nat.le_of_ble_eq_true rfl, Nat.le_of_ble_eq_true rfl⟩) hP hK hN hD hS hA [8, 9, 2, 3] [0, 1, 4, 5, 6, 7, 10, 11] [((ad 0), .inr (5, [.ref (ad 1), .int v, .ref (ad 2), .ref (ad 4), .ref (ad 6), .ref (ad 7), .ref (ad 8), .ref (ad 10), .int rn])), ((ad 1), .inl (cI, 8, .inl K)), ((ad 4), .inr (4, [.ref (ad 5), .int (nI tl)])), ((ad 5), .inl (cI, 192, .inl tb)), ((ad 6), .inr (3, [.int 0, .int 0, .int 192])), ((ad 7), .inr (3, [.int 7, .int 224, .int 416])), ((ad 10), .inr (2, [.ref (ad 11), .int (nI md)])), ((ad 11), .inl (cI, 192, .inl im))] rfl (by decide) rfl (fun _ => rfl) (fun _ => rfl) (fun _ => rfl) rfl (va_recv hK hP (ci := 1) (q0 := 8) rfl rfl) rfl hl.1 rfl (Nat.le_of_ble_eq_true rfl) dX5_readStagedManifest_8 ⟨Nat.zero_le _, Nat.zero_le _⟩ (fun u_8 H locs hu_8 hP hD hS => ?_)
  obtain ⟨ob_8, rfl⟩ : ∃ z, z = u_8 := ⟨_, rfl⟩
  have hP : va_P D vwCl (cW cI ad K v f p a st n k tb tl ob_8 im md rn) _ := hP
  have hD : va_D A (cW cI ad K v f p a st n k tb tl ob_8 im md rn) := hD
  refine W.eq (g2 := F0 m 11 ls []) rfl ?_
  refine lv_aload_n hx hb dX5_readStagedManifest_11 rfl (lv_at hl 0 rfl) ?_
  refine va_get (D := D) (ci := 5) (v := .ref (ad 8)) (C := RX5) (T := TX5) (N := 9) hx hb hts iX5_readStagedManifest_X5 hown hK hP 0 rfl rfl 6 (by decide) (hts _ qX5_readStagedManifest_1) (fun _ h9 => h9) rfl dX5_readStagedManifest_12 ?_
  refine zVR (As := []) (rest := []) ⟨hx, hb, hml, hown, hts⟩ (k_X1_isInRange l D cI (ad 8) (ad 9) ob_8) (cwV 0 hts gX5_readStagedManifest_X1_isInRange rfl rfl rfl (by decide +kernel) ⟨Nat.le_of_ble_eq_true rfl, Nat.le_of_ble_eq_true rfl⟩) hP hK hN [8, 9] rfl (va_recv hK hP (ci := 1) (q0 := 8) rfl rfl) rfl hl.1 rfl (Nat.le_of_ble_eq_true rfl) dX5_readStagedManifest_15 ⟨Nat.zero_le _, Nat.zero_le _⟩ ?_
  refine lv_if_eq (tgt := 32) hx hb dX5_readStagedManifest_18 (by decide) (fun c_18 => ?_) (fun c_18 => ?_)
  · -- 18 t
    refine lv_iconst (v := 0) hx hb dX5_readStagedManifest_32 (by decide) ?_
    exact hret 33 ls _ _ (0, ob_8) 0 _ dX5_readStagedManifest_33 rfl rfl rfl (by simp only [z_rsm, z_rsm2, ← hu_8, if_pos c_18]) hP hS
  · -- 18 f
    refine lv_aload_n hx hb dX5_readStagedManifest_21 rfl (lv_at hl 0 rfl) ?_
    refine zVR (As := []) (rest := []) ⟨hx, hb, hml, hown, hts⟩ (k_X5_isOurs l D cI ad K v f p a st n k tb tl ob_8 im md rn) (cwV 0 hts gX5_readStagedManifest_X5_isOurs rfl rfl rfl (by decide +kernel) ⟨Nat.le_of_ble_eq_true rfl, Nat.le_of_ble_eq_true rfl⟩) hP hK hN [0, 1, 2, 3, 4, 5, 6, 7, 8, 9, 10, 11] rfl (va_recv hK hP (ci := 5) (q0 := 0) rfl rfl) rfl hl.1 rfl (Nat.le_of_ble_eq_true rfl) dX5_readStagedManifest_22 ⟨Nat.zero_le _, Nat.zero_le _⟩ ?_
    refine lv_if_eq (tgt := 32) hx hb dX5_readStagedManifest_25 (by decide) (fun c_25 => ?_) (fun c_25 => ?_)
    · -- 25 t
      refine lv_iconst (v := 0) hx hb dX5_readStagedManifest_32 (by decide) ?_
      exact hret 33 ls _ _ (0, ob_8) 0 _ dX5_readStagedManifest_33 rfl rfl rfl (by simp only [z_rsm, z_rsm2, ← hu_8, if_neg c_18, if_pos c_25]) hP hS
    · -- 25 f
      refine lv_iconst (v := 1) hx hb dX5_readStagedManifest_28 (by decide) ?_
      refine lv_goto (tgt := 33) hx hb dX5_readStagedManifest_29 (by decide) ?_
      exact hret 33 ls _ _ (1, ob_8) 1 _ dX5_readStagedManifest_33 rfl rfl rfl (by simp only [z_rsm, z_rsm2, ← hu_8, if_neg c_18, if_neg c_25]) hP hS
abbrev rm_X5_blocksOf : Room := { frames := 0, cells := 0, slots := 0, locals := 0 }
set_option maxHeartbeats 4000000 in
set_option maxRecDepth 100000 in
theorem k_X5_blocksOf (l : Launch) (D : va_G) (cI : ClassId)   (x : Int32)  : zMR l D cI yX5_blocksOf wsX5_blocksOf rm_X5_blocksOf [.int x] (w0 cI) (.int (z_blks x)) := by
  refine zEntR (cc := cX5_blocksOf) (maxL := 1) (ret := (some .int)) (own := RX5) (lvs := [(0, .int x)]) (by decide) rfl rfl rfl rfl (Nat.le_of_ble_eq_true rfl) rfl ?_
  intro p0 e s m args below meth c Q ls hx hb hml hts hown hP hK hN hl hret hretA
  refine lv_iload_n hx hb dX5_blocksOf_0 rfl (lv_at hl 0 rfl) ?_
  refine lv_bipush (v := 16) hx hb dX5_blocksOf_1 (by decide) ?_
  refine lv_iadd hx hb dX5_blocksOf_3 ?_
  refine lv_iconst (v := 1) hx hb dX5_blocksOf_4 (by decide) ?_
  refine lv_isub hx hb dX5_blocksOf_5 ?_
  refine lv_bipush (v := 16) hx hb dX5_blocksOf_6 (by decide) ?_
  refine lv_idiv hx hb dX5_blocksOf_8 (by decide) ?_
  exact hret 9 ls (((x + 16) - 1) / 16) _ dX5_blocksOf_9 rfl rfl (congrArg Value.int (by rfl))
abbrev rm_X5_isBlockOf : Room := { frames := 1, cells := 0, slots := 0, locals := 20 }
set_option maxHeartbeats 4000000 in
set_option maxRecDepth 100000 in
theorem k_X5_isBlockOf (l : Launch) (D : va_G) (cI : ClassId)   (x : Int32) (y : Int32)  : zMR l D cI yX5_isBlockOf wsX5_isBlockOf rm_X5_isBlockOf [.int x, .int y] (w0 cI) (.int (z_isBlk x y)) := by
  refine zEntR (cc := cX5_isBlockOf) (maxL := 2) (ret := (some .boolean)) (own := RX5) (lvs := [(0, .int x), (1, .int y)]) (by decide) rfl rfl rfl rfl (Nat.le_of_ble_eq_true rfl) rfl ?_
  intro p0 e s m args below meth c Q ls hx hb hml hts hown hP hK hN hl hret hretA
  refine lv_iload_n hx hb dX5_isBlockOf_0 rfl (lv_at hl 0 rfl) ?_
  refine lv_if_lt (tgt := 16) hx hb dX5_isBlockOf_1 (by decide) (fun c_1 => ?_) (fun c_1 => ?_)
  · -- 1 t
    refine lv_iconst (v := 0) hx hb dX5_isBlockOf_16 (by decide) ?_
    exact hret 17 ls 0 _ dX5_isBlockOf_17 rfl rfl (congrArg Value.int (by simp only [z_isBlk, if_pos c_1]))
  · -- 1 f
    refine lv_iload_n hx hb dX5_isBlockOf_4 rfl (lv_at hl 0 rfl) ?_
    refine lv_iload_n hx hb dX5_isBlockOf_5 rfl (lv_at hl 1 rfl) ?_
    refine zSR (As := [.int y]) (rest := [.int x]) ⟨hx, hb, hml, hown, hts⟩ (k_X5_blocksOf l D cI y) (va_cwS 1 hts gX5_isBlockOf_X5_blocksOf rfl rfl rfl (by decide +kernel) ⟨Nat.le_of_ble_eq_true rfl, Nat.le_of_ble_eq_true rfl⟩) hP hK hN [] rfl rfl hl.1 rfl (Nat.le_of_ble_eq_true rfl) dX5_isBlockOf_6 ⟨Nat.zero_le _, Nat.zero_le _⟩ ?_
    refine lv_icmp_ge (tgt := 16) hx hb dX5_isBlockOf_9 (by decide) (fun c_9 => ?_) (fun c_9 => ?_)
    · -- 9 t
      refine lv_iconst (v := 0) hx hb dX5_isBlockOf_16 (by decide) ?_
      exact hret 17 ls 0 _ dX5_isBlockOf_17 rfl rfl (congrArg Value.int (by simp only [z_isBlk, if_neg c_1, if_pos c_9]))
    · -- 9 f
      refine lv_iconst (v := 1) hx hb dX5_isBlockOf_12 (by decide) ?_
      refine lv_goto (tgt := 17) hx hb dX5_isBlockOf_13 (by decide) ?_
      exact hret 17 ls 1 _ dX5_isBlockOf_17 rfl rfl (congrArg Value.int (by simp only [z_isBlk, if_neg c_1, if_neg c_9]))
abbrev rm_X5_blockLength : Room := { frames := 1, cells := 0, slots := 0, locals := 40 }
set_option maxRecDepth 20000 in
theorem qX5_blockLength_1 : (Cond.fieldLink RX5 38 "FlashBoot" "order" "LFlashBoot$Manifest;" : Cond) ∈ wsX5_blockLength := List.mem_of_getElem? (i := 1) rfl
set_option maxRecDepth 20000 in
theorem iX5_blockLength_X5 : ∀ w ∈ wsX50, w ∈ wsX5_blockLength := by decide +kernel
set_option maxRecDepth 20000 in
theorem qX5_blockLength_2 : (Cond.methodLink RX5 233 Lib.Math.min.name : Cond) ∈ wsX5_blockLength := List.mem_of_getElem? (i := 2) rfl
set_option maxRecDepth 20000 in
theorem qX5_blockLength_3 : (Cond.static Lib.Math.min.name : Cond) ∈ wsX5_blockLength := List.mem_of_getElem? (i := 3) rfl
set_option maxRecDepth 20000 in
theorem qX5_blockLength_4 : (Cond.initialized "java/lang/Math" : Cond) ∈ wsX5_blockLength := List.mem_of_getElem? (i := 4) rfl
set_option maxRecDepth 20000 in
theorem qX5_blockLength_5 : (Cond.code Lib.Math.min.name Lib.Math.min.code 2 (some .int) : Cond) ∈ wsX5_blockLength := List.mem_of_getElem? (i := 5) rfl
set_option maxHeartbeats 4000000 in
set_option maxRecDepth 100000 in
theorem k_X5_blockLength (l : Launch) (D : va_G) (cI : ClassId) (ad : Nat → Nat) (K : RW) (v : Int32) (f : RW) (p : Int32) (a : Int32) (st : Int32) (n : Int32) (k : Int32) (tb : RW) (tl : Nat) (ob : RW) (im : RW) (md : Nat) (rn : Int32) (x : Int32)  : zMR l D cI yX5_blockLength wsX5_blockLength rm_X5_blockLength [.ref (ad 0), .int x] (cW cI ad K v f p a st n k tb tl ob im md rn) (.int (z_blkLen ob x)) := by
  refine zEntR (cc := cX5_blockLength) (maxL := 2) (ret := (some .int)) (own := RX5) (lvs := [(0, .ref (ad 0)), (1, .int x)]) (by decide) rfl rfl rfl rfl (Nat.le_of_ble_eq_true rfl) rfl ?_
  intro p0 e s m args below meth c Q ls hx hb hml hts hown hP hK hN hl hret hretA
  refine lv_bipush (v := 16) hx hb dX5_blockLength_0 (by decide) ?_
  refine lv_aload_n hx hb dX5_blockLength_2 rfl (lv_at hl 0 rfl) ?_
  refine va_get (D := D) (ci := 5) (v := .ref (ad 8)) (C := RX5) (T := TX5) (N := 9) hx hb hts iX5_blockLength_X5 hown hK hP 0 rfl rfl 6 (by decide) (hts _ qX5_blockLength_1) (fun _ h9 => h9) rfl dX5_blockLength_3 ?_
  refine zVR (As := []) (rest := [.int 16]) ⟨hx, hb, hml, hown, hts⟩ (k_X1_payloadLength l D cI (ad 8) (ad 9) ob) (cwV 0 hts gX5_blockLength_X1_payloadLength rfl rfl rfl (by decide +kernel) ⟨Nat.le_of_ble_eq_true rfl, Nat.le_of_ble_eq_true rfl⟩) hP hK hN [8, 9] rfl (va_recv hK hP (ci := 1) (q0 := 8) rfl rfl) rfl hl.1 rfl (Nat.le_of_ble_eq_true rfl) dX5_blockLength_6 ⟨Nat.zero_le _, Nat.zero_le _⟩ ?_
  refine lv_bipush (v := 16) hx hb dX5_blockLength_9 (by decide) ?_
  refine lv_iload_n hx hb dX5_blockLength_11 rfl (lv_at hl 1 rfl) ?_
  refine lv_imul hx hb dX5_blockLength_12 ?_
  refine lv_isub hx hb dX5_blockLength_13 ?_
  refine va_mmin hx hb (hml.trans hl.1.symm) hown (hts _ qX5_blockLength_2) (hts _ qX5_blockLength_3) (hts _ qX5_blockLength_4) (hts _ qX5_blockLength_5) (Nat.le_of_ble_eq_true rfl) (Nat.le_of_ble_eq_true rfl) (Nat.zero_le _) (Nat.zero_le _) dX5_blockLength_14 ?_
  exact hret 17 ls (if (ob 6) - (16 * x) < 16 then (ob 6) - (16 * x) else 16) _ dX5_blockLength_17 rfl rfl (congrArg Value.int (by rfl))
abbrev rm_X5_isThere : Room := { frames := 1, cells := 0, slots := 0, locals := 21 }
set_option maxRecDepth 20000 in
theorem qX5_isThere_1 : (Cond.fieldLink RX5 12 "FlashBoot" "flash" "LFlashBoot$Flash;" : Cond) ∈ wsX5_isThere := List.mem_of_getElem? (i := 1) rfl
set_option maxRecDepth 20000 in
theorem iX5_isThere_X5 : ∀ w ∈ wsX50, w ∈ wsX5_isThere := by decide +kernel
set_option maxHeartbeats 4000000 in
set_option maxRecDepth 100000 in
theorem k_X5_isThere (l : Launch) (D : va_G) (cI : ClassId) (ad : Nat → Nat) (K : RW) (v : Int32) (f : RW) (p : Int32) (a : Int32) (st : Int32) (n : Int32) (k : Int32) (tb : RW) (tl : Nat) (ob : RW) (im : RW) (md : Nat) (rn : Int32) (x : Int32)  : zMR l D cI yX5_isThere wsX5_isThere rm_X5_isThere [.ref (ad 0), .int x] (cW cI ad K v f p a st n k tb tl ob im md rn) (.int (z_there f x)) := by
  refine zEntR (cc := cX5_isThere) (maxL := 2) (ret := (some .boolean)) (own := RX5) (lvs := [(0, .ref (ad 0)), (1, .int x)]) (by decide) rfl rfl rfl rfl (Nat.le_of_ble_eq_true rfl) rfl ?_
  intro p0 e s m args below meth c Q ls hx hb hml hts hown hP hK hN hl hret hretA
  refine lv_aload_n hx hb dX5_isThere_0 rfl (lv_at hl 0 rfl) ?_
  refine va_get (D := D) (ci := 5) (v := .ref (ad 2)) (C := RX5) (T := TX5) (N := 9) hx hb hts iX5_isThere_X5 hown hK hP 0 rfl rfl 2 (by decide) (hts _ qX5_isThere_1) (fun _ h9 => h9) rfl dX5_isThere_1 ?_
  refine lv_sipush (v := 672) hx hb dX5_isThere_4 (by decide) ?_
  refine lv_iload_n hx hb dX5_isThere_7 rfl (lv_at hl 1 rfl) ?_
  refine lv_iadd hx hb dX5_isThere_8 ?_
  refine zVR (As := [.int (672 + x)]) (rest := []) ⟨hx, hb, hml, hown, hts⟩ (k_X0_at l D cI (ad 2) (ad 3) f p a st n k (672 + x)) (cwV 1 hts gX5_isThere_X0_at rfl rfl rfl (by decide +kernel) ⟨Nat.le_of_ble_eq_true rfl, Nat.le_of_ble_eq_true rfl⟩) hP hK hN [2, 3] rfl (va_recv hK hP (ci := 0) (q0 := 2) rfl rfl) rfl hl.1 rfl (Nat.le_of_ble_eq_true rfl) dX5_isThere_9 ⟨Nat.zero_le _, Nat.zero_le _⟩ ?_
  refine lv_if_ne (tgt := 19) hx hb dX5_isThere_12 (by decide) (fun c_12 => ?_) (fun c_12 => ?_)
  · -- 12 t
    refine lv_iconst (v := 0) hx hb dX5_isThere_19 (by decide) ?_
    exact hret 20 ls 0 _ dX5_isThere_20 rfl rfl (congrArg Value.int (by simp only [z_there, if_neg c_12]))
  · -- 12 f
    refine lv_iconst (v := 1) hx hb dX5_isThere_15 (by decide) ?_
    refine lv_goto (tgt := 20) hx hb dX5_isThere_16 (by decide) ?_
    exact hret 20 ls 1 _ dX5_isThere_20 rfl rfl (congrArg Value.int (by simp only [z_there, if_pos c_12]))
abbrev rm_X5_isWhollyStaged : Room := { frames := 2, cells := 0, slots := 0, locals := 42 }
set_option maxRecDepth 20000 in
theorem qX5_isWhollyStaged_1 : (Cond.fieldLink RX5 38 "FlashBoot" "order" "LFlashBoot$Manifest;" : Cond) ∈ wsX5_isWhollyStaged := List.mem_of_getElem? (i := 1) rfl
set_option maxRecDepth 20000 in
theorem iX5_isWhollyStaged_X5 : ∀ w ∈ wsX50, w ∈ wsX5_isWhollyStaged := by decide +kernel
set_option maxHeartbeats 4000000 in
set_option maxRecDepth 100000 in
theorem k_X5_isWhollyStaged (l : Launch) (D : va_G) (cI : ClassId) (ad : Nat → Nat) (K : RW) (v : Int32) (f : RW) (p : Int32) (a : Int32) (st : Int32) (n : Int32) (k : Int32) (tb : RW) (tl : Nat) (ob : RW) (im : RW) (md : Nat) (rn : Int32)   : zMR l D cI yX5_isWhollyStaged wsX5_isWhollyStaged rm_X5_isWhollyStaged [.ref (ad 0)] (cW cI ad K v f p a st n k tb tl ob im md rn) (.int (z_stgd f ob)) := by
  refine zEntR (cc := cX5_isWhollyStaged) (maxL := 3) (ret := (some .boolean)) (own := RX5) (lvs := [(0, .ref (ad 0))]) (by decide) rfl rfl rfl rfl (Nat.le_of_ble_eq_true rfl) rfl ?_
  intro p0 e s m args below meth c Q ls hx hb hml hts hown hP hK hN hl hret hretA
  refine lv_aload_n hx hb dX5_isWhollyStaged_0 rfl (lv_at hl 0 rfl) ?_
  refine va_get (D := D) (ci := 5) (v := .ref (ad 8)) (C := RX5) (T := TX5) (N := 9) hx hb hts iX5_isWhollyStaged_X5 hown hK hP 0 rfl rfl 6 (by decide) (hts _ qX5_isWhollyStaged_1) (fun _ h9 => h9) rfl dX5_isWhollyStaged_1 ?_
  refine zVR (As := []) (rest := []) ⟨hx, hb, hml, hown, hts⟩ (k_X1_payloadLength l D cI (ad 8) (ad 9) ob) (cwV 0 hts gX5_isWhollyStaged_X1_payloadLength rfl rfl rfl (by decide +kernel) ⟨Nat.le_of_ble_eq_true rfl, Nat.le_of_ble_eq_true rfl⟩) hP hK hN [8, 9] rfl (va_recv hK hP (ci := 1) (q0 := 8) rfl rfl) rfl hl.1 rfl (Nat.le_of_ble_eq_true rfl) dX5_isWhollyStaged_4 ⟨Nat.zero_le _, Nat.zero_le _⟩ ?_
  refine zSR (As := [.int (ob 6)]) (rest := []) ⟨hx, hb, hml, hown, hts⟩ (k_X5_blocksOf l D cI (ob 6)) (va_cwS 1 hts gX5_isWhollyStaged_X5_blocksOf rfl rfl rfl (by decide +kernel) ⟨Nat.le_of_ble_eq_true rfl, Nat.le_of_ble_eq_true rfl⟩) hP hK hN [] rfl rfl hl.1 rfl (Nat.le_of_ble_eq_true rfl) dX5_isWhollyStaged_7 ⟨Nat.zero_le _, Nat.zero_le _⟩ ?_
  refine lv_istore_n (lv' := [(1, .int (z_blks (ob 6))), (0, .ref (ad 0))]) hx hb dX5_isWhollyStaged_10 rfl hl (by decide) rfl (fun ls hl => ?_)
  refine lv_iconst (v := 0) hx hb dX5_isWhollyStaged_11 (by decide) ?_
  refine lv_istore_n (lv' := [(2, .int 0), (1, .int (z_blks (ob 6))), (0, .ref (ad 0))]) hx hb dX5_isWhollyStaged_12 rfl hl (by decide) rfl (fun ls hl => ?_)
  have h8 := z_clamp (z_blks (ob 6))
  have lp_13 : ∀ (g_13 : Nat) (d : Nat) (i : Nat) (ls : Array Slot), i + d = (z_blks (ob 6)).toNatClampNeg → z_stgN f d i = z_stgN f (z_blks (ob 6)).toNatClampNeg 0 → d < g_13 → lv_has ls 3 [(0, .ref (ad 0)), (1, .int (z_blks (ob 6))), (2, .int (nI i))] → W p0 l e rm_X5_isWhollyStaged s m args below meth c s.heap [] 0 0 Q (F0 m 13 ls []) := by
    intro g_13
    induction g_13 with
    | zero => intro d i ls h1 hy h9_13; exact absurd h9_13 (Nat.not_lt_zero _)
    | succ g_13 ih_13 =>
      intro d i ls h1 hy h9_13 hl
      refine lv_iload_n hx hb dX5_isWhollyStaged_13 rfl (lv_at hl 2 rfl) ?_
      refine lv_iload_n hx hb dX5_isWhollyStaged_14 rfl (lv_at hl 1 rfl) ?_
      refine z_icmp_geC (tgt := 34) hx hb dX5_isWhollyStaged_15 (by decide) i rfl (by omega) (fun c_15 => ?_) (fun c_15 => ?_)
      · -- 15 t
        obtain rfl : d = 0 := by omega
        refine lv_iconst (v := 1) hx hb dX5_isWhollyStaged_34 (by decide) ?_
        exact hret 35 ls 1 _ dX5_isWhollyStaged_35 rfl rfl (congrArg Value.int (hy))
      · -- 15 f
        obtain ⟨d, rfl⟩ : ∃ d1, d = d1 + 1 := ⟨d - 1, by omega⟩
        refine lv_aload_n hx hb dX5_isWhollyStaged_18 rfl (lv_at hl 0 rfl) ?_
        refine lv_iload_n hx hb dX5_isWhollyStaged_19 rfl (lv_at hl 2 rfl) ?_
        refine zVR (As := [.int (nI i)]) (rest := []) ⟨hx, hb, hml, hown, hts⟩ (k_X5_isThere l D cI ad K v f p a st n k tb tl ob im md rn (nI i)) (cwV 1 hts gX5_isWhollyStaged_X5_isThere rfl rfl rfl (by decide +kernel) ⟨Nat.le_of_ble_eq_true rfl, Nat.le_of_ble_eq_true rfl⟩) hP hK hN [0, 1, 2, 3, 4, 5, 6, 7, 8, 9, 10, 11] rfl (va_recv hK hP (ci := 5) (q0 := 0) rfl rfl) rfl hl.1 rfl (Nat.le_of_ble_eq_true rfl) dX5_isWhollyStaged_20 ⟨Nat.zero_le _, Nat.zero_le _⟩ ?_
        refine lv_if_ne (tgt := 28) hx hb dX5_isWhollyStaged_23 (by decide) (fun c_23 => ?_) (fun c_23 => ?_)
        · -- 23 t
          refine lv_iinc (v := (nI (i + 1))) (lv' := [(2, .int (nI (i + 1))), (0, .ref (ad 0)), (1, .int (z_blks (ob 6)))]) hx hb dX5_isWhollyStaged_28 hl (k := 2) rfl (z_inc _ _ rfl) (by decide) rfl (fun ls hl => ?_)
          refine lv_goto (tgt := 13) hx hb dX5_isWhollyStaged_31 (by decide) ?_
          exact ih_13 d (i + 1) _ (by omega) (by rw [← hy, z_stgN, if_neg c_23]) (by omega) (lv_sub hl [1, 2, 0] rfl)
        · -- 23 f
          refine lv_iconst (v := 0) hx hb dX5_isWhollyStaged_26 (by decide) ?_
          exact hret 27 ls 0 _ dX5_isWhollyStaged_27 rfl rfl (congrArg Value.int (by rw [z_stgd, ← hy, z_stgN, if_pos c_23]))
  exact lp_13 _ ((z_blks (ob 6)).toNatClampNeg) 0 _ (Nat.zero_add _) rfl (Nat.lt_succ_self _) (lv_sub hl [2, 1, 0] rfl)
abbrev rm_X5_isGood_6 : Room := { frames := 4, cells := 0, slots := 0, locals := 87 }
set_option maxRecDepth 20000 in
theorem qX5_isGood_6_1 : (Cond.fieldLink RX5 12 "FlashBoot" "flash" "LFlashBoot$Flash;" : Cond) ∈ wsX5_isGood := List.mem_of_getElem? (i := 1) rfl
set_option maxRecDepth 20000 in
theorem iX5_isGood_6_X5 : ∀ w ∈ wsX50, w ∈ wsX5_isGood := by decide +kernel
set_option maxHeartbeats 4000000 in
set_option maxRecDepth 100000 in
theorem k_X5_isGood_6 (l : Launch) (D : va_G) (cI : ClassId) (ad : Nat → Nat) (K : RW) (v : Int32) (f : RW) (p : Int32) (a : Int32) (st : Int32) (n : Int32) (k : Int32) (tb : RW) (tl : Nat) (ob : RW) (im : RW) (md : Nat) (rn : Int32)   : zMR l D cI yX5_isGood wsX5_isGood rm_X5_isGood_6 [.ref (ad 0), .ref (ad 6)] (cW cI ad K v f p a st n k tb tl ob im md rn) (.int (z_sGood 0 192 f (z_cntr f))) := by
  refine zEntR (cc := cX5_isGood) (maxL := 2) (ret := (some .boolean)) (own := RX5) (lvs := [(0, .ref (ad 0)), (1, .ref (ad 6))]) (by decide) rfl rfl rfl rfl (Nat.le_of_ble_eq_true rfl) rfl ?_
  intro p0 e s m args below meth c Q ls hx hb hml hts hown hP hK hN hl hret hretA
  refine lv_aload_n hx hb dX5_isGood_0 rfl (lv_at hl 1 rfl) ?_
  refine lv_aload_n hx hb dX5_isGood_1 rfl (lv_at hl 0 rfl) ?_
  refine va_get (D := D) (ci := 5) (v := .ref (ad 2)) (C := RX5) (T := TX5) (N := 9) hx hb hts iX5_isGood_6_X5 hown hK hP 0 rfl rfl 2 (by decide) (hts _ qX5_isGood_6_1) (fun _ h9 => h9) rfl dX5_isGood_2 ?_
  refine lv_aload_n hx hb dX5_isGood_5 rfl (lv_at hl 0 rfl) ?_
  refine zVR (As := []) (rest := [.ref (ad 2), .ref (ad 6)]) ⟨hx, hb, hml, hown, hts⟩ (k_X5_counter l D cI ad K v f p a st n k tb tl ob im md rn) (cwV 0 hts gX5_isGood_X5_counter rfl rfl rfl (by decide +kernel) ⟨Nat.le_of_ble_eq_true rfl, Nat.le_of_ble_eq_true rfl⟩) hP hK hN [0, 1, 2, 3, 4, 5, 6, 7, 8, 9, 10, 11] rfl (va_recv hK hP (ci := 5) (q0 := 0) rfl rfl) rfl hl.1 rfl (Nat.le_of_ble_eq_true rfl) dX5_isGood_6 ⟨Nat.zero_le _, Nat.zero_le _⟩ ?_
  refine zVR (As := [.ref (ad 2), .int (z_cntr f)]) (rest := []) ⟨hx, hb, hml, hown, hts⟩ (k_X3_isGood l D cI (ad 6) (ad 2) (ad 3) 0 0 192 f p a st n k (z_cntr f)) (cwV 2 hts gX5_isGood_X3_isGood rfl rfl rfl (by decide +kernel) ⟨Nat.le_of_ble_eq_true rfl, Nat.le_of_ble_eq_true rfl⟩) hP hK hN [6, 2, 3] rfl (va_recv hK hP (ci := 3) (q0 := 6) rfl rfl) rfl hl.1 rfl (Nat.le_of_ble_eq_true rfl) dX5_isGood_9 ⟨Nat.zero_le _, Nat.zero_le _⟩ ?_
  exact hret 12 ls (z_sGood 0 192 f (z_cntr f)) _ dX5_isGood_12 rfl (z_nb (z_sGood01 _ _ _ _)) (congrArg Value.int (by rfl))
abbrev rm_X5_isGood_7 : Room := { frames := 4, cells := 0, slots := 0, locals := 87 }
set_option maxRecDepth 20000 in
theorem qX5_isGood_7_1 : (Cond.fieldLink RX5 12 "FlashBoot" "flash" "LFlashBoot$Flash;" : Cond) ∈ wsX5_isGood := List.mem_of_getElem? (i := 1) rfl
set_option maxRecDepth 20000 in
theorem iX5_isGood_7_X5 : ∀ w ∈ wsX50, w ∈ wsX5_isGood := by decide +kernel
set_option maxHeartbeats 4000000 in
set_option maxRecDepth 100000 in
theorem k_X5_isGood_7 (l : Launch) (D : va_G) (cI : ClassId) (ad : Nat → Nat) (K : RW) (v : Int32) (f : RW) (p : Int32) (a : Int32) (st : Int32) (n : Int32) (k : Int32) (tb : RW) (tl : Nat) (ob : RW) (im : RW) (md : Nat) (rn : Int32)   : zMR l D cI yX5_isGood wsX5_isGood rm_X5_isGood_7 [.ref (ad 0), .ref (ad 7)] (cW cI ad K v f p a st n k tb tl ob im md rn) (.int (z_sGood 224 416 f (z_cntr f))) := by
  refine zEntR (cc := cX5_isGood) (maxL := 2) (ret := (some .boolean)) (own := RX5) (lvs := [(0, .ref (ad 0)), (1, .ref (ad 7))]) (by decide) rfl rfl rfl rfl (Nat.le_of_ble_eq_true rfl) rfl ?_
  intro p0 e s m args below meth c Q ls hx hb hml hts hown hP hK hN hl hret hretA
  refine lv_aload_n hx hb dX5_isGood_0 rfl (lv_at hl 1 rfl) ?_
  refine lv_aload_n hx hb dX5_isGood_1 rfl (lv_at hl 0 rfl) ?_
  refine va_get (D := D) (ci := 5) (v := .ref (ad 2)) (C := RX5) (T := TX5) (N := 9) hx hb hts iX5_isGood_7_X5 hown hK hP 0 rfl rfl 2 (by decide) (hts _ qX5_isGood_7_1) (fun _ h9 => h9) rfl dX5_isGood_2 ?_
  refine lv_aload_n hx hb dX5_isGood_5 rfl (lv_at hl 0 rfl) ?_
  refine zVR (As := []) (rest := [.ref (ad 2), .ref (ad 7)]) ⟨hx, hb, hml, hown, hts⟩ (k_X5_counter l D cI ad K v f p a st n k tb tl ob im md rn) (cwV 0 hts gX5_isGood_X5_counter rfl rfl rfl (by decide +kernel) ⟨Nat.le_of_ble_eq_true rfl, Nat.le_of_ble_eq_true rfl⟩) hP hK hN [0, 1, 2, 3, 4, 5, 6, 7, 8, 9, 10, 11] rfl (va_recv hK hP (ci := 5) (q0 := 0) rfl rfl) rfl hl.1 rfl (Nat.le_of_ble_eq_true rfl) dX5_isGood_6 ⟨Nat.zero_le _, Nat.zero_le _⟩ ?_
  refine zVR (As := [.ref (ad 2), .int (z_cntr f)]) (rest := []) ⟨hx, hb, hml, hown, hts⟩ (k_X3_isGood l D cI (ad 7) (ad 2) (ad 3) 7 224 416 f p a st n k (z_cntr f)) (cwV 2 hts gX5_isGood_X3_isGood rfl rfl rfl (by decide +kernel) ⟨Nat.le_of_ble_eq_true rfl, Nat.le_of_ble_eq_true rfl⟩) hP hK hN [7, 2, 3] rfl (va_recv hK hP (ci := 3) (q0 := 7) rfl rfl) rfl hl.1 rfl (Nat.le_of_ble_eq_true rfl) dX5_isGood_9 ⟨Nat.zero_le _, Nat.zero_le _⟩ ?_
  exact hret 12 ls (z_sGood 224 416 f (z_cntr f)) _ dX5_isGood_12 rfl (z_nb (z_sGood01 _ _ _ _)) (congrArg Value.int (by rfl))
abbrev rm_X5_later : Room := { frames := 2, cells := 0, slots := 0, locals := 42 }
set_option maxRecDepth 20000 in
theorem qX5_later_1 : (Cond.fieldLink RX5 32 "FlashBoot" "upper" "LFlashBoot$Slot;" : Cond) ∈ wsX5_later := List.mem_of_getElem? (i := 1) rfl
set_option maxRecDepth 20000 in
theorem iX5_later_X5 : ∀ w ∈ wsX50, w ∈ wsX5_later := by decide +kernel
set_option maxRecDepth 20000 in
theorem qX5_later_2 : (Cond.fieldLink RX5 12 "FlashBoot" "flash" "LFlashBoot$Flash;" : Cond) ∈ wsX5_later := List.mem_of_getElem? (i := 2) rfl
set_option maxRecDepth 20000 in
theorem qX5_later_3 : (Cond.fieldLink RX5 28 "FlashBoot" "lower" "LFlashBoot$Slot;" : Cond) ∈ wsX5_later := List.mem_of_getElem? (i := 3) rfl
set_option maxHeartbeats 4000000 in
set_option maxRecDepth 100000 in
theorem k_X5_later (l : Launch) (D : va_G) (cI : ClassId) (ad : Nat → Nat) (K : RW) (v : Int32) (f : RW) (p : Int32) (a : Int32) (st : Int32) (n : Int32) (k : Int32) (tb : RW) (tl : Nat) (ob : RW) (im : RW) (md : Nat) (rn : Int32) (x : Int32) (y : Int32)  : zMR l D cI yX5_later wsX5_later rm_X5_later [.ref (ad 0), .int x, .int y] (cW cI ad K v f p a st n k tb tl ob im md rn) (.int (z_later f x y)) := by
  refine zEntR (cc := cX5_later) (maxL := 3) (ret := (some .int)) (own := RX5) (lvs := [(0, .ref (ad 0)), (1, .int x), (2, .int y)]) (by decide) rfl rfl rfl rfl (Nat.le_of_ble_eq_true rfl) rfl ?_
  intro p0 e s m args below meth c Q ls hx hb hml hts hown hP hK hN hl hret hretA
  refine lv_iload_n hx hb dX5_later_0 rfl (lv_at hl 2 rfl) ?_
  refine lv_if_eq (tgt := 35) hx hb dX5_later_1 (by decide) (fun c_1 => ?_) (fun c_1 => ?_)
  · -- 1 t
    refine lv_iload_n hx hb dX5_later_35 rfl (lv_at hl 1 rfl) ?_
    refine lv_if_eq (tgt := 43) hx hb dX5_later_36 (by decide) (fun c_36 => ?_) (fun c_36 => ?_)
    · -- 36 t
      refine lv_bipush (v := (-7)) hx hb dX5_later_43 (by decide) ?_
      exact hret 45 ls (-7) _ dX5_later_45 rfl rfl (congrArg Value.int (by simp only [z_later, if_pos c_1, if_pos c_36]))
    · -- 36 f
      refine lv_iconst (v := 0) hx hb dX5_later_39 (by decide) ?_
      refine lv_goto (tgt := 45) hx hb dX5_later_40 (by decide) ?_
      exact hret 45 ls 0 _ dX5_later_45 rfl rfl (congrArg Value.int (by simp only [z_later, if_pos c_1, if_neg c_36]))
  · -- 1 f
    refine lv_iload_n hx hb dX5_later_4 rfl (lv_at hl 1 rfl) ?_
    refine lv_if_eq (tgt := 33) hx hb dX5_later_5 (by decide) (fun c_5 => ?_) (fun c_5 => ?_)
    · -- 5 t
      refine lv_iconst (v := 1) hx hb dX5_later_33 (by decide) ?_
      exact hret 34 ls 1 _ dX5_later_34 rfl rfl (congrArg Value.int (by simp only [z_later, if_neg c_1, if_pos c_5]))
    · -- 5 f
      refine lv_aload_n hx hb dX5_later_8 rfl (lv_at hl 0 rfl) ?_
      refine va_get (D := D) (ci := 5) (v := .ref (ad 7)) (C := RX5) (T := TX5) (N := 9) hx hb hts iX5_later_X5 hown hK hP 0 rfl rfl 5 (by decide) (hts _ qX5_later_1) (fun _ h9 => h9) rfl dX5_later_9 ?_
      refine lv_aload_n hx hb dX5_later_12 rfl (lv_at hl 0 rfl) ?_
      refine va_get (D := D) (ci := 5) (v := .ref (ad 2)) (C := RX5) (T := TX5) (N := 9) hx hb hts iX5_later_X5 hown hK hP 0 rfl rfl 2 (by decide) (hts _ qX5_later_2) (fun _ h9 => h9) rfl dX5_later_13 ?_
      refine zVR (As := [.ref (ad 2)]) (rest := []) ⟨hx, hb, hml, hown, hts⟩ (k_X3_sequence l D cI (ad 7) (ad 2) (ad 3) 7 224 416 f p a st n k) (cwV 1 hts gX5_later_X3_sequence rfl rfl rfl (by decide +kernel) ⟨Nat.le_of_ble_eq_true rfl, Nat.le_of_ble_eq_true rfl⟩) hP hK hN [7, 2, 3] rfl (va_recv hK hP (ci := 3) (q0 := 7) rfl rfl) rfl hl.1 rfl (Nat.le_of_ble_eq_true rfl) dX5_later_16 ⟨Nat.zero_le _, Nat.zero_le _⟩ ?_
      refine lv_aload_n hx hb dX5_later_19 rfl (lv_at hl 0 rfl) ?_
      refine va_get (D := D) (ci := 5) (v := .ref (ad 6)) (C := RX5) (T := TX5) (N := 9) hx hb hts iX5_later_X5 hown hK hP 0 rfl rfl 4 (by decide) (hts _ qX5_later_3) (fun _ h9 => h9) rfl dX5_later_20 ?_
      refine lv_aload_n hx hb dX5_later_23 rfl (lv_at hl 0 rfl) ?_
      refine va_get (D := D) (ci := 5) (v := .ref (ad 2)) (C := RX5) (T := TX5) (N := 9) hx hb hts iX5_later_X5 hown hK hP 0 rfl rfl 2 (by decide) (hts _ qX5_later_2) (fun _ h9 => h9) rfl dX5_later_24 ?_
      refine zVR (As := [.ref (ad 2)]) (rest := [.int (z_at f (416 + 1))]) ⟨hx, hb, hml, hown, hts⟩ (k_X3_sequence l D cI (ad 6) (ad 2) (ad 3) 0 0 192 f p a st n k) (cwV 1 hts gX5_later_X3_sequence rfl rfl rfl (by decide +kernel) ⟨Nat.le_of_ble_eq_true rfl, Nat.le_of_ble_eq_true rfl⟩) hP hK hN [6, 2, 3] rfl (va_recv hK hP (ci := 3) (q0 := 6) rfl rfl) rfl hl.1 rfl (Nat.le_of_ble_eq_true rfl) dX5_later_27 ⟨Nat.zero_le _, Nat.zero_le _⟩ ?_
      refine lv_icmp_le (tgt := 35) hx hb dX5_later_30 (by decide) (fun c_30 => ?_) (fun c_30 => ?_)
      · -- 30 t
        refine lv_iload_n hx hb dX5_later_35 rfl (lv_at hl 1 rfl) ?_
        refine lv_if_eq (tgt := 43) hx hb dX5_later_36 (by decide) (fun c_36 => ?_) (fun c_36 => ?_)
        · -- 36 t
          refine lv_bipush (v := (-7)) hx hb dX5_later_43 (by decide) ?_
          exact hret 45 ls (-7) _ dX5_later_45 rfl rfl (congrArg Value.int (absurd c_36 c_5))
        · -- 36 f
          refine lv_iconst (v := 0) hx hb dX5_later_39 (by decide) ?_
          refine lv_goto (tgt := 45) hx hb dX5_later_40 (by decide) ?_
          exact hret 45 ls 0 _ dX5_later_45 rfl rfl (congrArg Value.int (by simp only [z_later, if_neg c_1, if_neg c_5, if_pos c_30, if_neg c_36]))
      · -- 30 f
        refine lv_iconst (v := 1) hx hb dX5_later_33 (by decide) ?_
        exact hret 34 ls 1 _ dX5_later_34 rfl rfl (congrArg Value.int (by simp only [z_later, if_neg c_1, if_neg c_5, if_neg c_30]))
abbrev rm_X5_slotOnTrial : Room := { frames := 5, cells := 0, slots := 0, locals := 108 }
set_option maxRecDepth 20000 in
theorem qX5_slotOnTrial_1 : (Cond.fieldLink RX5 28 "FlashBoot" "lower" "LFlashBoot$Slot;" : Cond) ∈ wsX5_slotOnTrial := List.mem_of_getElem? (i := 1) rfl
set_option maxRecDepth 20000 in
theorem iX5_slotOnTrial_X5 : ∀ w ∈ wsX50, w ∈ wsX5_slotOnTrial := by decide +kernel
set_option maxRecDepth 20000 in
theorem qX5_slotOnTrial_3 : (Cond.fieldLink RX5 32 "FlashBoot" "upper" "LFlashBoot$Slot;" : Cond) ∈ wsX5_slotOnTrial := List.mem_of_getElem? (i := 3) rfl
set_option maxRecDepth 20000 in
theorem qX5_slotOnTrial_2 : (Cond.fieldLink RX5 12 "FlashBoot" "flash" "LFlashBoot$Flash;" : Cond) ∈ wsX5_slotOnTrial := List.mem_of_getElem? (i := 2) rfl
set_option maxHeartbeats 4000000 in
set_option maxRecDepth 100000 in
theorem k_X5_slotOnTrial (l : Launch) (D : va_G) (cI : ClassId) (ad : Nat → Nat) (K : RW) (v : Int32) (f : RW) (p : Int32) (a : Int32) (st : Int32) (n : Int32) (k : Int32) (tb : RW) (tl : Nat) (ob : RW) (im : RW) (md : Nat) (rn : Int32)   : zMR l D cI yX5_slotOnTrial wsX5_slotOnTrial rm_X5_slotOnTrial [.ref (ad 0)] (cW cI ad K v f p a st n k tb tl ob im md rn) (.int (z_onTrial f)) := by
  refine zEntR (cc := cX5_slotOnTrial) (maxL := 1) (ret := (some .int)) (own := RX5) (lvs := [(0, .ref (ad 0))]) (by decide) rfl rfl rfl rfl (Nat.le_of_ble_eq_true rfl) rfl ?_
  intro p0 e s m args below meth c Q ls hx hb hml hts hown hP hK hN hl hret hretA
  refine lv_aload_n hx hb dX5_slotOnTrial_0 rfl (lv_at hl 0 rfl) ?_
  refine lv_aload_n hx hb dX5_slotOnTrial_1 rfl (lv_at hl 0 rfl) ?_
  refine lv_aload_n hx hb dX5_slotOnTrial_2 rfl (lv_at hl 0 rfl) ?_
  refine va_get (D := D) (ci := 5) (v := .ref (ad 6)) (C := RX5) (T := TX5) (N := 9) hx hb hts iX5_slotOnTrial_X5 hown hK hP 0 rfl rfl 4 (by decide) (hts _ qX5_slotOnTrial_1) (fun _ h9 => h9) rfl dX5_slotOnTrial_3 ?_
  refine zVR (As := [.ref (ad 6)]) (rest := [.ref (ad 0)]) ⟨hx, hb, hml, hown, hts⟩ (k_X5_isGood_6 l D cI ad K v f p a st n k tb tl ob im md rn) (cwV 1 hts gX5_slotOnTrial_X5_isGood rfl rfl rfl (by decide +kernel) ⟨Nat.le_of_ble_eq_true rfl, Nat.le_of_ble_eq_true rfl⟩) hP hK hN [0, 1, 2, 3, 4, 5, 6, 7, 8, 9, 10, 11] rfl (va_recv hK hP (ci := 5) (q0 := 0) rfl rfl) rfl hl.1 rfl (Nat.le_of_ble_eq_true rfl) dX5_slotOnTrial_6 ⟨Nat.zero_le _, Nat.zero_le _⟩ ?_
  refine lv_if_eq (tgt := 30) hx hb dX5_slotOnTrial_9 (by decide) (fun c_9 => ?_) (fun c_9 => ?_)
  · -- 9 t
    refine lv_iconst (v := 0) hx hb dX5_slotOnTrial_30 (by decide) ?_
    refine lv_aload_n hx hb dX5_slotOnTrial_31 rfl (lv_at hl 0 rfl) ?_
    refine lv_aload_n hx hb dX5_slotOnTrial_32 rfl (lv_at hl 0 rfl) ?_
    refine va_get (D := D) (ci := 5) (v := .ref (ad 7)) (C := RX5) (T := TX5) (N := 9) hx hb hts iX5_slotOnTrial_X5 hown hK hP 0 rfl rfl 5 (by decide) (hts _ qX5_slotOnTrial_3) (fun _ h9 => h9) rfl dX5_slotOnTrial_33 ?_
    refine zVR (As := [.ref (ad 7)]) (rest := [.int 0, .ref (ad 0)]) ⟨hx, hb, hml, hown, hts⟩ (k_X5_isGood_7 l D cI ad K v f p a st n k tb tl ob im md rn) (cwV 1 hts gX5_slotOnTrial_X5_isGood rfl rfl rfl (by decide +kernel) ⟨Nat.le_of_ble_eq_true rfl, Nat.le_of_ble_eq_true rfl⟩) hP hK hN [0, 1, 2, 3, 4, 5, 6, 7, 8, 9, 10, 11] rfl (va_recv hK hP (ci := 5) (q0 := 0) rfl rfl) rfl hl.1 rfl (Nat.le_of_ble_eq_true rfl) dX5_slotOnTrial_36 ⟨Nat.zero_le _, Nat.zero_le _⟩ ?_
    refine lv_if_eq (tgt := 60) hx hb dX5_slotOnTrial_39 (by decide) (fun c_39 => ?_) (fun c_39 => ?_)
    · -- 39 t
      refine lv_iconst (v := 0) hx hb dX5_slotOnTrial_60 (by decide) ?_
      refine zVR (As := [.int 0, .int 0]) (rest := []) ⟨hx, hb, hml, hown, hts⟩ (k_X5_later l D cI ad K v f p a st n k tb tl ob im md rn 0 0) (cwV 2 hts gX5_slotOnTrial_X5_later rfl rfl rfl (by decide +kernel) ⟨Nat.le_of_ble_eq_true rfl, Nat.le_of_ble_eq_true rfl⟩) hP hK hN [0, 1, 2, 3, 4, 5, 6, 7, 8, 9, 10, 11] rfl (va_recv hK hP (ci := 5) (q0 := 0) rfl rfl) rfl hl.1 rfl (Nat.le_of_ble_eq_true rfl) dX5_slotOnTrial_61 ⟨Nat.zero_le _, Nat.zero_le _⟩ ?_
      exact hret 64 ls (z_later f 0 0) _ dX5_slotOnTrial_64 rfl rfl (congrArg Value.int (by simp only [z_onTrial, z_canT, if_pos c_9, if_pos c_39]))
    · -- 39 f
      refine lv_aload_n hx hb dX5_slotOnTrial_42 rfl (lv_at hl 0 rfl) ?_
      refine va_get (D := D) (ci := 5) (v := .ref (ad 7)) (C := RX5) (T := TX5) (N := 9) hx hb hts iX5_slotOnTrial_X5 hown hK hP 0 rfl rfl 5 (by decide) (hts _ qX5_slotOnTrial_3) (fun _ h9 => h9) rfl dX5_slotOnTrial_43 ?_
      refine lv_aload_n hx hb dX5_slotOnTrial_46 rfl (lv_at hl 0 rfl) ?_
      refine va_get (D := D) (ci := 5) (v := .ref (ad 2)) (C := RX5) (T := TX5) (N := 9) hx hb hts iX5_slotOnTrial_X5 hown hK hP 0 rfl rfl 2 (by decide) (hts _ qX5_slotOnTrial_2) (fun _ h9 => h9) rfl dX5_slotOnTrial_47 ?_
      refine zVR (As := [.ref (ad 2)]) (rest := [.int 0, .ref (ad 0)]) ⟨hx, hb, hml, hown, hts⟩ (k_X3_isOnTrial l D cI (ad 7) (ad 2) (ad 3) 7 224 416 f p a st n k) (cwV 1 hts gX5_slotOnTrial_X3_isOnTrial rfl rfl rfl (by decide +kernel) ⟨Nat.le_of_ble_eq_true rfl, Nat.le_of_ble_eq_true rfl⟩) hP hK hN [7, 2, 3] rfl (va_recv hK hP (ci := 3) (q0 := 7) rfl rfl) rfl hl.1 rfl (Nat.le_of_ble_eq_true rfl) dX5_slotOnTrial_50 ⟨Nat.zero_le _, Nat.zero_le _⟩ ?_
      refine lv_if_eq (tgt := 60) hx hb dX5_slotOnTrial_53 (by decide) (fun c_53 => ?_) (fun c_53 => ?_)
      · -- 53 t
        refine lv_iconst (v := 0) hx hb dX5_slotOnTrial_60 (by decide) ?_
        refine zVR (As := [.int 0, .int 0]) (rest := []) ⟨hx, hb, hml, hown, hts⟩ (k_X5_later l D cI ad K v f p a st n k tb tl ob im md rn 0 0) (cwV 2 hts gX5_slotOnTrial_X5_later rfl rfl rfl (by decide +kernel) ⟨Nat.le_of_ble_eq_true rfl, Nat.le_of_ble_eq_true rfl⟩) hP hK hN [0, 1, 2, 3, 4, 5, 6, 7, 8, 9, 10, 11] rfl (va_recv hK hP (ci := 5) (q0 := 0) rfl rfl) rfl hl.1 rfl (Nat.le_of_ble_eq_true rfl) dX5_slotOnTrial_61 ⟨Nat.zero_le _, Nat.zero_le _⟩ ?_
        exact hret 64 ls (z_later f 0 0) _ dX5_slotOnTrial_64 rfl rfl (congrArg Value.int (by simp only [z_onTrial, z_canT, if_pos c_9, if_neg c_39, if_pos c_53]))
      · -- 53 f
        refine lv_iconst (v := 1) hx hb dX5_slotOnTrial_56 (by decide) ?_
        refine lv_goto (tgt := 61) hx hb dX5_slotOnTrial_57 (by decide) ?_
        refine zVR (As := [.int 0, .int 1]) (rest := []) ⟨hx, hb, hml, hown, hts⟩ (k_X5_later l D cI ad K v f p a st n k tb tl ob im md rn 0 1) (cwV 2 hts gX5_slotOnTrial_X5_later rfl rfl rfl (by decide +kernel) ⟨Nat.le_of_ble_eq_true rfl, Nat.le_of_ble_eq_true rfl⟩) hP hK hN [0, 1, 2, 3, 4, 5, 6, 7, 8, 9, 10, 11] rfl (va_recv hK hP (ci := 5) (q0 := 0) rfl rfl) rfl hl.1 rfl (Nat.le_of_ble_eq_true rfl) dX5_slotOnTrial_61 ⟨Nat.zero_le _, Nat.zero_le _⟩ ?_
        exact hret 64 ls (z_later f 0 1) _ dX5_slotOnTrial_64 rfl rfl (congrArg Value.int (by simp only [z_onTrial, z_canT, if_pos c_9, if_neg c_39, if_neg c_53]))
  · -- 9 f
    refine lv_aload_n hx hb dX5_slotOnTrial_12 rfl (lv_at hl 0 rfl) ?_
    refine va_get (D := D) (ci := 5) (v := .ref (ad 6)) (C := RX5) (T := TX5) (N := 9) hx hb hts iX5_slotOnTrial_X5 hown hK hP 0 rfl rfl 4 (by decide) (hts _ qX5_slotOnTrial_1) (fun _ h9 => h9) rfl dX5_slotOnTrial_13 ?_
    refine lv_aload_n hx hb dX5_slotOnTrial_16 rfl (lv_at hl 0 rfl) ?_
    refine va_get (D := D) (ci := 5) (v := .ref (ad 2)) (C := RX5) (T := TX5) (N := 9) hx hb hts iX5_slotOnTrial_X5 hown hK hP 0 rfl rfl 2 (by decide) (hts _ qX5_slotOnTrial_2) (fun _ h9 => h9) rfl dX5_slotOnTrial_17 ?_
    refine zVR (As := [.ref (ad 2)]) (rest := [.ref (ad 0)]) ⟨hx, hb, hml, hown, hts⟩ (k_X3_isOnTrial l D cI (ad 6) (ad 2) (ad 3) 0 0 192 f p a st n k) (cwV 1 hts gX5_slotOnTrial_X3_isOnTrial rfl rfl rfl (by decide +kernel) ⟨Nat.le_of_ble_eq_true rfl, Nat.le_of_ble_eq_true rfl⟩) hP hK hN [6, 2, 3] rfl (va_recv hK hP (ci := 3) (q0 := 6) rfl rfl) rfl hl.1 rfl (Nat.le_of_ble_eq_true rfl) dX5_slotOnTrial_20 ⟨Nat.zero_le _, Nat.zero_le _⟩ ?_
    refine lv_if_eq (tgt := 30) hx hb dX5_slotOnTrial_23 (by decide) (fun c_23 => ?_) (fun c_23 => ?_)
    · -- 23 t
      refine lv_iconst (v := 0) hx hb dX5_slotOnTrial_30 (by decide) ?_
      refine lv_aload_n hx hb dX5_slotOnTrial_31 rfl (lv_at hl 0 rfl) ?_
      refine lv_aload_n hx hb dX5_slotOnTrial_32 rfl (lv_at hl 0 rfl) ?_
      refine va_get (D := D) (ci := 5) (v := .ref (ad 7)) (C := RX5) (T := TX5) (N := 9) hx hb hts iX5_slotOnTrial_X5 hown hK hP 0 rfl rfl 5 (by decide) (hts _ qX5_slotOnTrial_3) (fun _ h9 => h9) rfl dX5_slotOnTrial_33 ?_
      refine zVR (As := [.ref (ad 7)]) (rest := [.int 0, .ref (ad 0)]) ⟨hx, hb, hml, hown, hts⟩ (k_X5_isGood_7 l D cI ad K v f p a st n k tb tl ob im md rn) (cwV 1 hts gX5_slotOnTrial_X5_isGood rfl rfl rfl (by decide +kernel) ⟨Nat.le_of_ble_eq_true rfl, Nat.le_of_ble_eq_true rfl⟩) hP hK hN [0, 1, 2, 3, 4, 5, 6, 7, 8, 9, 10, 11] rfl (va_recv hK hP (ci := 5) (q0 := 0) rfl rfl) rfl hl.1 rfl (Nat.le_of_ble_eq_true rfl) dX5_slotOnTrial_36 ⟨Nat.zero_le _, Nat.zero_le _⟩ ?_
      refine lv_if_eq (tgt := 60) hx hb dX5_slotOnTrial_39 (by decide) (fun c_39 => ?_) (fun c_39 => ?_)
      · -- 39 t
        refine lv_iconst (v := 0) hx hb dX5_slotOnTrial_60 (by decide) ?_
        refine zVR (As := [.int 0, .int 0]) (rest := []) ⟨hx, hb, hml, hown, hts⟩ (k_X5_later l D cI ad K v f p a st n k tb tl ob im md rn 0 0) (cwV 2 hts gX5_slotOnTrial_X5_later rfl rfl rfl (by decide +kernel) ⟨Nat.le_of_ble_eq_true rfl, Nat.le_of_ble_eq_true rfl⟩) hP hK hN [0, 1, 2, 3, 4, 5, 6, 7, 8, 9, 10, 11] rfl (va_recv hK hP (ci := 5) (q0 := 0) rfl rfl) rfl hl.1 rfl (Nat.le_of_ble_eq_true rfl) dX5_slotOnTrial_61 ⟨Nat.zero_le _, Nat.zero_le _⟩ ?_
        exact hret 64 ls (z_later f 0 0) _ dX5_slotOnTrial_64 rfl rfl (congrArg Value.int (by simp only [z_onTrial, z_canT, if_neg c_9, if_pos c_23, if_pos c_39]))
      · -- 39 f
        refine lv_aload_n hx hb dX5_slotOnTrial_42 rfl (lv_at hl 0 rfl) ?_
        refine va_get (D := D) (ci := 5) (v := .ref (ad 7)) (C := RX5) (T := TX5) (N := 9) hx hb hts iX5_slotOnTrial_X5 hown hK hP 0 rfl rfl 5 (by decide) (hts _ qX5_slotOnTrial_3) (fun _ h9 => h9) rfl dX5_slotOnTrial_43 ?_
        refine lv_aload_n hx hb dX5_slotOnTrial_46 rfl (lv_at hl 0 rfl) ?_
        refine va_get (D := D) (ci := 5) (v := .ref (ad 2)) (C := RX5) (T := TX5) (N := 9) hx hb hts iX5_slotOnTrial_X5 hown hK hP 0 rfl rfl 2 (by decide) (hts _ qX5_slotOnTrial_2) (fun _ h9 => h9) rfl dX5_slotOnTrial_47 ?_
        refine zVR (As := [.ref (ad 2)]) (rest := [.int 0, .ref (ad 0)]) ⟨hx, hb, hml, hown, hts⟩ (k_X3_isOnTrial l D cI (ad 7) (ad 2) (ad 3) 7 224 416 f p a st n k) (cwV 1 hts gX5_slotOnTrial_X3_isOnTrial rfl rfl rfl (by decide +kernel) ⟨Nat.le_of_ble_eq_true rfl, Nat.le_of_ble_eq_true rfl⟩) hP hK hN [7, 2, 3] rfl (va_recv hK hP (ci := 3) (q0 := 7) rfl rfl) rfl hl.1 rfl (Nat.le_of_ble_eq_true rfl) dX5_slotOnTrial_50 ⟨Nat.zero_le _, Nat.zero_le _⟩ ?_
        refine lv_if_eq (tgt := 60) hx hb dX5_slotOnTrial_53 (by decide) (fun c_53 => ?_) (fun c_53 => ?_)
        · -- 53 t
          refine lv_iconst (v := 0) hx hb dX5_slotOnTrial_60 (by decide) ?_
          refine zVR (As := [.int 0, .int 0]) (rest := []) ⟨hx, hb, hml, hown, hts⟩ (k_X5_later l D cI ad K v f p a st n k tb tl ob im md rn 0 0) (cwV 2 hts gX5_slotOnTrial_X5_later rfl rfl rfl (by decide +kernel) ⟨Nat.le_of_ble_eq_true rfl, Nat.le_of_ble_eq_true rfl⟩) hP hK hN [0, 1, 2, 3, 4, 5, 6, 7, 8, 9, 10, 11] rfl (va_recv hK hP (ci := 5) (q0 := 0) rfl rfl) rfl hl.1 rfl (Nat.le_of_ble_eq_true rfl) dX5_slotOnTrial_61 ⟨Nat.zero_le _, Nat.zero_le _⟩ ?_
          exact hret 64 ls (z_later f 0 0) _ dX5_slotOnTrial_64 rfl rfl (congrArg Value.int (by simp only [z_onTrial, z_canT, if_neg c_9, if_pos c_23, if_neg c_39, if_pos c_53]))
        · -- 53 f
          refine lv_iconst (v := 1) hx hb dX5_slotOnTrial_56 (by decide) ?_
          refine lv_goto (tgt := 61) hx hb dX5_slotOnTrial_57 (by decide) ?_
          refine zVR (As := [.int 0, .int 1]) (rest := []) ⟨hx, hb, hml, hown, hts⟩ (k_X5_later l D cI ad K v f p a st n k tb tl ob im md rn 0 1) (cwV 2 hts gX5_slotOnTrial_X5_later rfl rfl rfl (by decide +kernel) ⟨Nat.le_of_ble_eq_true rfl, Nat.le_of_ble_eq_true rfl⟩) hP hK hN [0, 1, 2, 3, 4, 5, 6, 7, 8, 9, 10, 11] rfl (va_recv hK hP (ci := 5) (q0 := 0) rfl rfl) rfl hl.1 rfl (Nat.le_of_ble_eq_true rfl) dX5_slotOnTrial_61 ⟨Nat.zero_le _, Nat.zero_le _⟩ ?_
          exact hret 64 ls (z_later f 0 1) _ dX5_slotOnTrial_64 rfl rfl (congrArg Value.int (by simp only [z_onTrial, z_canT, if_neg c_9, if_pos c_23, if_neg c_39, if_neg c_53]))
    · -- 23 f
      refine lv_iconst (v := 1) hx hb dX5_slotOnTrial_26 (by decide) ?_
      refine lv_goto (tgt := 31) hx hb dX5_slotOnTrial_27 (by decide) ?_
      refine lv_aload_n hx hb dX5_slotOnTrial_31 rfl (lv_at hl 0 rfl) ?_
      refine lv_aload_n hx hb dX5_slotOnTrial_32 rfl (lv_at hl 0 rfl) ?_
      refine va_get (D := D) (ci := 5) (v := .ref (ad 7)) (C := RX5) (T := TX5) (N := 9) hx hb hts iX5_slotOnTrial_X5 hown hK hP 0 rfl rfl 5 (by decide) (hts _ qX5_slotOnTrial_3) (fun _ h9 => h9) rfl dX5_slotOnTrial_33 ?_
      refine zVR (As := [.ref (ad 7)]) (rest := [.int 1, .ref (ad 0)]) ⟨hx, hb, hml, hown, hts⟩ (k_X5_isGood_7 l D cI ad K v f p a st n k tb tl ob im md rn) (cwV 1 hts gX5_slotOnTrial_X5_isGood rfl rfl rfl (by decide +kernel) ⟨Nat.le_of_ble_eq_true rfl, Nat.le_of_ble_eq_true rfl⟩) hP hK hN [0, 1, 2, 3, 4, 5, 6, 7, 8, 9, 10, 11] rfl (va_recv hK hP (ci := 5) (q0 := 0) rfl rfl) rfl hl.1 rfl (Nat.le_of_ble_eq_true rfl) dX5_slotOnTrial_36 ⟨Nat.zero_le _, Nat.zero_le _⟩ ?_
      refine lv_if_eq (tgt := 60) hx hb dX5_slotOnTrial_39 (by decide) (fun c_39 => ?_) (fun c_39 => ?_)
      · -- 39 t
        refine lv_iconst (v := 0) hx hb dX5_slotOnTrial_60 (by decide) ?_
        refine zVR (As := [.int 1, .int 0]) (rest := []) ⟨hx, hb, hml, hown, hts⟩ (k_X5_later l D cI ad K v f p a st n k tb tl ob im md rn 1 0) (cwV 2 hts gX5_slotOnTrial_X5_later rfl rfl rfl (by decide +kernel) ⟨Nat.le_of_ble_eq_true rfl, Nat.le_of_ble_eq_true rfl⟩) hP hK hN [0, 1, 2, 3, 4, 5, 6, 7, 8, 9, 10, 11] rfl (va_recv hK hP (ci := 5) (q0 := 0) rfl rfl) rfl hl.1 rfl (Nat.le_of_ble_eq_true rfl) dX5_slotOnTrial_61 ⟨Nat.zero_le _, Nat.zero_le _⟩ ?_
        exact hret 64 ls (z_later f 1 0) _ dX5_slotOnTrial_64 rfl rfl (congrArg Value.int (by simp only [z_onTrial, z_canT, if_neg c_9, if_neg c_23, if_pos c_39]))
      · -- 39 f
        refine lv_aload_n hx hb dX5_slotOnTrial_42 rfl (lv_at hl 0 rfl) ?_
        refine va_get (D := D) (ci := 5) (v := .ref (ad 7)) (C := RX5) (T := TX5) (N := 9) hx hb hts iX5_slotOnTrial_X5 hown hK hP 0 rfl rfl 5 (by decide) (hts _ qX5_slotOnTrial_3) (fun _ h9 => h9) rfl dX5_slotOnTrial_43 ?_
        refine lv_aload_n hx hb dX5_slotOnTrial_46 rfl (lv_at hl 0 rfl) ?_
        refine va_get (D := D) (ci := 5) (v := .ref (ad 2)) (C := RX5) (T := TX5) (N := 9) hx hb hts iX5_slotOnTrial_X5 hown hK hP 0 rfl rfl 2 (by decide) (hts _ qX5_slotOnTrial_2) (fun _ h9 => h9) rfl dX5_slotOnTrial_47 ?_
        refine zVR (As := [.ref (ad 2)]) (rest := [.int 1, .ref (ad 0)]) ⟨hx, hb, hml, hown, hts⟩ (k_X3_isOnTrial l D cI (ad 7) (ad 2) (ad 3) 7 224 416 f p a st n k) (cwV 1 hts gX5_slotOnTrial_X3_isOnTrial rfl rfl rfl (by decide +kernel) ⟨Nat.le_of_ble_eq_true rfl, Nat.le_of_ble_eq_true rfl⟩) hP hK hN [7, 2, 3] rfl (va_recv hK hP (ci := 3) (q0 := 7) rfl rfl) rfl hl.1 rfl (Nat.le_of_ble_eq_true rfl) dX5_slotOnTrial_50 ⟨Nat.zero_le _, Nat.zero_le _⟩ ?_
        refine lv_if_eq (tgt := 60) hx hb dX5_slotOnTrial_53 (by decide) (fun c_53 => ?_) (fun c_53 => ?_)
        · -- 53 t
          refine lv_iconst (v := 0) hx hb dX5_slotOnTrial_60 (by decide) ?_
          refine zVR (As := [.int 1, .int 0]) (rest := []) ⟨hx, hb, hml, hown, hts⟩ (k_X5_later l D cI ad K v f p a st n k tb tl ob im md rn 1 0) (cwV 2 hts gX5_slotOnTrial_X5_later rfl rfl rfl (by decide +kernel) ⟨Nat.le_of_ble_eq_true rfl, Nat.le_of_ble_eq_true rfl⟩) hP hK hN [0, 1, 2, 3, 4, 5, 6, 7, 8, 9, 10, 11] rfl (va_recv hK hP (ci := 5) (q0 := 0) rfl rfl) rfl hl.1 rfl (Nat.le_of_ble_eq_true rfl) dX5_slotOnTrial_61 ⟨Nat.zero_le _, Nat.zero_le _⟩ ?_
          exact hret 64 ls (z_later f 1 0) _ dX5_slotOnTrial_64 rfl rfl (congrArg Value.int (by simp only [z_onTrial, z_canT, if_neg c_9, if_neg c_23, if_neg c_39, if_pos c_53]))
        · -- 53 f
          refine lv_iconst (v := 1) hx hb dX5_slotOnTrial_56 (by decide) ?_
          refine lv_goto (tgt := 61) hx hb dX5_slotOnTrial_57 (by decide) ?_
          refine zVR (As := [.int 1, .int 1]) (rest := []) ⟨hx, hb, hml, hown, hts⟩ (k_X5_later l D cI ad K v f p a st n k tb tl ob im md rn 1 1) (cwV 2 hts gX5_slotOnTrial_X5_later rfl rfl rfl (by decide +kernel) ⟨Nat.le_of_ble_eq_true rfl, Nat.le_of_ble_eq_true rfl⟩) hP hK hN [0, 1, 2, 3, 4, 5, 6, 7, 8, 9, 10, 11] rfl (va_recv hK hP (ci := 5) (q0 := 0) rfl rfl) rfl hl.1 rfl (Nat.le_of_ble_eq_true rfl) dX5_slotOnTrial_61 ⟨Nat.zero_le _, Nat.zero_le _⟩ ?_
          exact hret 64 ls (z_later f 1 1) _ dX5_slotOnTrial_64 rfl rfl (congrArg Value.int (by simp only [z_onTrial, z_canT, if_neg c_9, if_neg c_23, if_neg c_39, if_neg c_53]))
abbrev rm_X5_slotConfirmed : Room := { frames := 5, cells := 0, slots := 0, locals := 108 }
set_option maxRecDepth 20000 in
theorem qX5_slotConfirmed_1 : (Cond.fieldLink RX5 28 "FlashBoot" "lower" "LFlashBoot$Slot;" : Cond) ∈ wsX5_slotConfirmed := List.mem_of_getElem? (i := 1) rfl
set_option maxRecDepth 20000 in
theorem iX5_slotConfirmed_X5 : ∀ w ∈ wsX50, w ∈ wsX5_slotConfirmed := by decide +kernel
set_option maxRecDepth 20000 in
theorem qX5_slotConfirmed_3 : (Cond.fieldLink RX5 32 "FlashBoot" "upper" "LFlashBoot$Slot;" : Cond) ∈ wsX5_slotConfirmed := List.mem_of_getElem? (i := 3) rfl
set_option maxRecDepth 20000 in
theorem qX5_slotConfirmed_2 : (Cond.fieldLink RX5 12 "FlashBoot" "flash" "LFlashBoot$Flash;" : Cond) ∈ wsX5_slotConfirmed := List.mem_of_getElem? (i := 2) rfl
set_option maxHeartbeats 4000000 in
set_option maxRecDepth 100000 in
theorem k_X5_slotConfirmed (l : Launch) (D : va_G) (cI : ClassId) (ad : Nat → Nat) (K : RW) (v : Int32) (f : RW) (p : Int32) (a : Int32) (st : Int32) (n : Int32) (k : Int32) (tb : RW) (tl : Nat) (ob : RW) (im : RW) (md : Nat) (rn : Int32)   : zMR l D cI yX5_slotConfirmed wsX5_slotConfirmed rm_X5_slotConfirmed [.ref (ad 0)] (cW cI ad K v f p a st n k tb tl ob im md rn) (.int (z_onConf f)) := by
  refine zEntR (cc := cX5_slotConfirmed) (maxL := 1) (ret := (some .int)) (own := RX5) (lvs := [(0, .ref (ad 0))]) (by decide) rfl rfl rfl rfl (Nat.le_of_ble_eq_true rfl) rfl ?_
  intro p0 e s m args below meth c Q ls hx hb hml hts hown hP hK hN hl hret hretA
  refine lv_aload_n hx hb dX5_slotConfirmed_0 rfl (lv_at hl 0 rfl) ?_
  refine lv_aload_n hx hb dX5_slotConfirmed_1 rfl (lv_at hl 0 rfl) ?_
  refine lv_aload_n hx hb dX5_slotConfirmed_2 rfl (lv_at hl 0 rfl) ?_
  refine va_get (D := D) (ci := 5) (v := .ref (ad 6)) (C := RX5) (T := TX5) (N := 9) hx hb hts iX5_slotConfirmed_X5 hown hK hP 0 rfl rfl 4 (by decide) (hts _ qX5_slotConfirmed_1) (fun _ h9 => h9) rfl dX5_slotConfirmed_3 ?_
  refine zVR (As := [.ref (ad 6)]) (rest := [.ref (ad 0)]) ⟨hx, hb, hml, hown, hts⟩ (k_X5_isGood_6 l D cI ad K v f p a st n k tb tl ob im md rn) (cwV 1 hts gX5_slotConfirmed_X5_isGood rfl rfl rfl (by decide +kernel) ⟨Nat.le_of_ble_eq_true rfl, Nat.le_of_ble_eq_true rfl⟩) hP hK hN [0, 1, 2, 3, 4, 5, 6, 7, 8, 9, 10, 11] rfl (va_recv hK hP (ci := 5) (q0 := 0) rfl rfl) rfl hl.1 rfl (Nat.le_of_ble_eq_true rfl) dX5_slotConfirmed_6 ⟨Nat.zero_le _, Nat.zero_le _⟩ ?_
  refine lv_if_eq (tgt := 30) hx hb dX5_slotConfirmed_9 (by decide) (fun c_9 => ?_) (fun c_9 => ?_)
  · -- 9 t
    refine lv_iconst (v := 0) hx hb dX5_slotConfirmed_30 (by decide) ?_
    refine lv_aload_n hx hb dX5_slotConfirmed_31 rfl (lv_at hl 0 rfl) ?_
    refine lv_aload_n hx hb dX5_slotConfirmed_32 rfl (lv_at hl 0 rfl) ?_
    refine va_get (D := D) (ci := 5) (v := .ref (ad 7)) (C := RX5) (T := TX5) (N := 9) hx hb hts iX5_slotConfirmed_X5 hown hK hP 0 rfl rfl 5 (by decide) (hts _ qX5_slotConfirmed_3) (fun _ h9 => h9) rfl dX5_slotConfirmed_33 ?_
    refine zVR (As := [.ref (ad 7)]) (rest := [.int 0, .ref (ad 0)]) ⟨hx, hb, hml, hown, hts⟩ (k_X5_isGood_7 l D cI ad K v f p a st n k tb tl ob im md rn) (cwV 1 hts gX5_slotConfirmed_X5_isGood rfl rfl rfl (by decide +kernel) ⟨Nat.le_of_ble_eq_true rfl, Nat.le_of_ble_eq_true rfl⟩) hP hK hN [0, 1, 2, 3, 4, 5, 6, 7, 8, 9, 10, 11] rfl (va_recv hK hP (ci := 5) (q0 := 0) rfl rfl) rfl hl.1 rfl (Nat.le_of_ble_eq_true rfl) dX5_slotConfirmed_36 ⟨Nat.zero_le _, Nat.zero_le _⟩ ?_
    refine lv_if_eq (tgt := 60) hx hb dX5_slotConfirmed_39 (by decide) (fun c_39 => ?_) (fun c_39 => ?_)
    · -- 39 t
      refine lv_iconst (v := 0) hx hb dX5_slotConfirmed_60 (by decide) ?_
      refine zVR (As := [.int 0, .int 0]) (rest := []) ⟨hx, hb, hml, hown, hts⟩ (k_X5_later l D cI ad K v f p a st n k tb tl ob im md rn 0 0) (cwV 2 hts gX5_slotConfirmed_X5_later rfl rfl rfl (by decide +kernel) ⟨Nat.le_of_ble_eq_true rfl, Nat.le_of_ble_eq_true rfl⟩) hP hK hN [0, 1, 2, 3, 4, 5, 6, 7, 8, 9, 10, 11] rfl (va_recv hK hP (ci := 5) (q0 := 0) rfl rfl) rfl hl.1 rfl (Nat.le_of_ble_eq_true rfl) dX5_slotConfirmed_61 ⟨Nat.zero_le _, Nat.zero_le _⟩ ?_
      exact hret 64 ls (z_later f 0 0) _ dX5_slotConfirmed_64 rfl rfl (congrArg Value.int (by simp only [z_onConf, z_canC, if_pos c_9, if_pos c_39]))
    · -- 39 f
      refine lv_aload_n hx hb dX5_slotConfirmed_42 rfl (lv_at hl 0 rfl) ?_
      refine va_get (D := D) (ci := 5) (v := .ref (ad 7)) (C := RX5) (T := TX5) (N := 9) hx hb hts iX5_slotConfirmed_X5 hown hK hP 0 rfl rfl 5 (by decide) (hts _ qX5_slotConfirmed_3) (fun _ h9 => h9) rfl dX5_slotConfirmed_43 ?_
      refine lv_aload_n hx hb dX5_slotConfirmed_46 rfl (lv_at hl 0 rfl) ?_
      refine va_get (D := D) (ci := 5) (v := .ref (ad 2)) (C := RX5) (T := TX5) (N := 9) hx hb hts iX5_slotConfirmed_X5 hown hK hP 0 rfl rfl 2 (by decide) (hts _ qX5_slotConfirmed_2) (fun _ h9 => h9) rfl dX5_slotConfirmed_47 ?_
      refine zVR (As := [.ref (ad 2)]) (rest := [.int 0, .ref (ad 0)]) ⟨hx, hb, hml, hown, hts⟩ (k_X3_isConfirmed l D cI (ad 7) (ad 2) (ad 3) 7 224 416 f p a st n k) (cwV 1 hts gX5_slotConfirmed_X3_isConfirmed rfl rfl rfl (by decide +kernel) ⟨Nat.le_of_ble_eq_true rfl, Nat.le_of_ble_eq_true rfl⟩) hP hK hN [7, 2, 3] rfl (va_recv hK hP (ci := 3) (q0 := 7) rfl rfl) rfl hl.1 rfl (Nat.le_of_ble_eq_true rfl) dX5_slotConfirmed_50 ⟨Nat.zero_le _, Nat.zero_le _⟩ ?_
      refine lv_if_eq (tgt := 60) hx hb dX5_slotConfirmed_53 (by decide) (fun c_53 => ?_) (fun c_53 => ?_)
      · -- 53 t
        refine lv_iconst (v := 0) hx hb dX5_slotConfirmed_60 (by decide) ?_
        refine zVR (As := [.int 0, .int 0]) (rest := []) ⟨hx, hb, hml, hown, hts⟩ (k_X5_later l D cI ad K v f p a st n k tb tl ob im md rn 0 0) (cwV 2 hts gX5_slotConfirmed_X5_later rfl rfl rfl (by decide +kernel) ⟨Nat.le_of_ble_eq_true rfl, Nat.le_of_ble_eq_true rfl⟩) hP hK hN [0, 1, 2, 3, 4, 5, 6, 7, 8, 9, 10, 11] rfl (va_recv hK hP (ci := 5) (q0 := 0) rfl rfl) rfl hl.1 rfl (Nat.le_of_ble_eq_true rfl) dX5_slotConfirmed_61 ⟨Nat.zero_le _, Nat.zero_le _⟩ ?_
        exact hret 64 ls (z_later f 0 0) _ dX5_slotConfirmed_64 rfl rfl (congrArg Value.int (by simp only [z_onConf, z_canC, if_pos c_9, if_neg c_39, if_pos c_53]))
      · -- 53 f
        refine lv_iconst (v := 1) hx hb dX5_slotConfirmed_56 (by decide) ?_
        refine lv_goto (tgt := 61) hx hb dX5_slotConfirmed_57 (by decide) ?_
        refine zVR (As := [.int 0, .int 1]) (rest := []) ⟨hx, hb, hml, hown, hts⟩ (k_X5_later l D cI ad K v f p a st n k tb tl ob im md rn 0 1) (cwV 2 hts gX5_slotConfirmed_X5_later rfl rfl rfl (by decide +kernel) ⟨Nat.le_of_ble_eq_true rfl, Nat.le_of_ble_eq_true rfl⟩) hP hK hN [0, 1, 2, 3, 4, 5, 6, 7, 8, 9, 10, 11] rfl (va_recv hK hP (ci := 5) (q0 := 0) rfl rfl) rfl hl.1 rfl (Nat.le_of_ble_eq_true rfl) dX5_slotConfirmed_61 ⟨Nat.zero_le _, Nat.zero_le _⟩ ?_
        exact hret 64 ls (z_later f 0 1) _ dX5_slotConfirmed_64 rfl rfl (congrArg Value.int (by simp only [z_onConf, z_canC, if_pos c_9, if_neg c_39, if_neg c_53]))
  · -- 9 f
    refine lv_aload_n hx hb dX5_slotConfirmed_12 rfl (lv_at hl 0 rfl) ?_
    refine va_get (D := D) (ci := 5) (v := .ref (ad 6)) (C := RX5) (T := TX5) (N := 9) hx hb hts iX5_slotConfirmed_X5 hown hK hP 0 rfl rfl 4 (by decide) (hts _ qX5_slotConfirmed_1) (fun _ h9 => h9) rfl dX5_slotConfirmed_13 ?_
    refine lv_aload_n hx hb dX5_slotConfirmed_16 rfl (lv_at hl 0 rfl) ?_
    refine va_get (D := D) (ci := 5) (v := .ref (ad 2)) (C := RX5) (T := TX5) (N := 9) hx hb hts iX5_slotConfirmed_X5 hown hK hP 0 rfl rfl 2 (by decide) (hts _ qX5_slotConfirmed_2) (fun _ h9 => h9) rfl dX5_slotConfirmed_17 ?_
    refine zVR (As := [.ref (ad 2)]) (rest := [.ref (ad 0)]) ⟨hx, hb, hml, hown, hts⟩ (k_X3_isConfirmed l D cI (ad 6) (ad 2) (ad 3) 0 0 192 f p a st n k) (cwV 1 hts gX5_slotConfirmed_X3_isConfirmed rfl rfl rfl (by decide +kernel) ⟨Nat.le_of_ble_eq_true rfl, Nat.le_of_ble_eq_true rfl⟩) hP hK hN [6, 2, 3] rfl (va_recv hK hP (ci := 3) (q0 := 6) rfl rfl) rfl hl.1 rfl (Nat.le_of_ble_eq_true rfl) dX5_slotConfirmed_20 ⟨Nat.zero_le _, Nat.zero_le _⟩ ?_
    refine lv_if_eq (tgt := 30) hx hb dX5_slotConfirmed_23 (by decide) (fun c_23 => ?_) (fun c_23 => ?_)
    · -- 23 t
      refine lv_iconst (v := 0) hx hb dX5_slotConfirmed_30 (by decide) ?_
      refine lv_aload_n hx hb dX5_slotConfirmed_31 rfl (lv_at hl 0 rfl) ?_
      refine lv_aload_n hx hb dX5_slotConfirmed_32 rfl (lv_at hl 0 rfl) ?_
      refine va_get (D := D) (ci := 5) (v := .ref (ad 7)) (C := RX5) (T := TX5) (N := 9) hx hb hts iX5_slotConfirmed_X5 hown hK hP 0 rfl rfl 5 (by decide) (hts _ qX5_slotConfirmed_3) (fun _ h9 => h9) rfl dX5_slotConfirmed_33 ?_
      refine zVR (As := [.ref (ad 7)]) (rest := [.int 0, .ref (ad 0)]) ⟨hx, hb, hml, hown, hts⟩ (k_X5_isGood_7 l D cI ad K v f p a st n k tb tl ob im md rn) (cwV 1 hts gX5_slotConfirmed_X5_isGood rfl rfl rfl (by decide +kernel) ⟨Nat.le_of_ble_eq_true rfl, Nat.le_of_ble_eq_true rfl⟩) hP hK hN [0, 1, 2, 3, 4, 5, 6, 7, 8, 9, 10, 11] rfl (va_recv hK hP (ci := 5) (q0 := 0) rfl rfl) rfl hl.1 rfl (Nat.le_of_ble_eq_true rfl) dX5_slotConfirmed_36 ⟨Nat.zero_le _, Nat.zero_le _⟩ ?_
      refine lv_if_eq (tgt := 60) hx hb dX5_slotConfirmed_39 (by decide) (fun c_39 => ?_) (fun c_39 => ?_)
      · -- 39 t
        refine lv_iconst (v := 0) hx hb dX5_slotConfirmed_60 (by decide) ?_
        refine zVR (As := [.int 0, .int 0]) (rest := []) ⟨hx, hb, hml, hown, hts⟩ (k_X5_later l D cI ad K v f p a st n k tb tl ob im md rn 0 0) (cwV 2 hts gX5_slotConfirmed_X5_later rfl rfl rfl (by decide +kernel) ⟨Nat.le_of_ble_eq_true rfl, Nat.le_of_ble_eq_true rfl⟩) hP hK hN [0, 1, 2, 3, 4, 5, 6, 7, 8, 9, 10, 11] rfl (va_recv hK hP (ci := 5) (q0 := 0) rfl rfl) rfl hl.1 rfl (Nat.le_of_ble_eq_true rfl) dX5_slotConfirmed_61 ⟨Nat.zero_le _, Nat.zero_le _⟩ ?_
        exact hret 64 ls (z_later f 0 0) _ dX5_slotConfirmed_64 rfl rfl (congrArg Value.int (by simp only [z_onConf, z_canC, if_neg c_9, if_pos c_23, if_pos c_39]))
      · -- 39 f
        refine lv_aload_n hx hb dX5_slotConfirmed_42 rfl (lv_at hl 0 rfl) ?_
        refine va_get (D := D) (ci := 5) (v := .ref (ad 7)) (C := RX5) (T := TX5) (N := 9) hx hb hts iX5_slotConfirmed_X5 hown hK hP 0 rfl rfl 5 (by decide) (hts _ qX5_slotConfirmed_3) (fun _ h9 => h9) rfl dX5_slotConfirmed_43 ?_
        refine lv_aload_n hx hb dX5_slotConfirmed_46 rfl (lv_at hl 0 rfl) ?_
        refine va_get (D := D) (ci := 5) (v := .ref (ad 2)) (C := RX5) (T := TX5) (N := 9) hx hb hts iX5_slotConfirmed_X5 hown hK hP 0 rfl rfl 2 (by decide) (hts _ qX5_slotConfirmed_2) (fun _ h9 => h9) rfl dX5_slotConfirmed_47 ?_
        refine zVR (As := [.ref (ad 2)]) (rest := [.int 0, .ref (ad 0)]) ⟨hx, hb, hml, hown, hts⟩ (k_X3_isConfirmed l D cI (ad 7) (ad 2) (ad 3) 7 224 416 f p a st n k) (cwV 1 hts gX5_slotConfirmed_X3_isConfirmed rfl rfl rfl (by decide +kernel) ⟨Nat.le_of_ble_eq_true rfl, Nat.le_of_ble_eq_true rfl⟩) hP hK hN [7, 2, 3] rfl (va_recv hK hP (ci := 3) (q0 := 7) rfl rfl) rfl hl.1 rfl (Nat.le_of_ble_eq_true rfl) dX5_slotConfirmed_50 ⟨Nat.zero_le _, Nat.zero_le _⟩ ?_
        refine lv_if_eq (tgt := 60) hx hb dX5_slotConfirmed_53 (by decide) (fun c_53 => ?_) (fun c_53 => ?_)
        · -- 53 t
          refine lv_iconst (v := 0) hx hb dX5_slotConfirmed_60 (by decide) ?_
          refine zVR (As := [.int 0, .int 0]) (rest := []) ⟨hx, hb, hml, hown, hts⟩ (k_X5_later l D cI ad K v f p a st n k tb tl ob im md rn 0 0) (cwV 2 hts gX5_slotConfirmed_X5_later rfl rfl rfl (by decide +kernel) ⟨Nat.le_of_ble_eq_true rfl, Nat.le_of_ble_eq_true rfl⟩) hP hK hN [0, 1, 2, 3, 4, 5, 6, 7, 8, 9, 10, 11] rfl (va_recv hK hP (ci := 5) (q0 := 0) rfl rfl) rfl hl.1 rfl (Nat.le_of_ble_eq_true rfl) dX5_slotConfirmed_61 ⟨Nat.zero_le _, Nat.zero_le _⟩ ?_
          exact hret 64 ls (z_later f 0 0) _ dX5_slotConfirmed_64 rfl rfl (congrArg Value.int (by simp only [z_onConf, z_canC, if_neg c_9, if_pos c_23, if_neg c_39, if_pos c_53]))
        · -- 53 f
          refine lv_iconst (v := 1) hx hb dX5_slotConfirmed_56 (by decide) ?_
          refine lv_goto (tgt := 61) hx hb dX5_slotConfirmed_57 (by decide) ?_
          refine zVR (As := [.int 0, .int 1]) (rest := []) ⟨hx, hb, hml, hown, hts⟩ (k_X5_later l D cI ad K v f p a st n k tb tl ob im md rn 0 1) (cwV 2 hts gX5_slotConfirmed_X5_later rfl rfl rfl (by decide +kernel) ⟨Nat.le_of_ble_eq_true rfl, Nat.le_of_ble_eq_true rfl⟩) hP hK hN [0, 1, 2, 3, 4, 5, 6, 7, 8, 9, 10, 11] rfl (va_recv hK hP (ci := 5) (q0 := 0) rfl rfl) rfl hl.1 rfl (Nat.le_of_ble_eq_true rfl) dX5_slotConfirmed_61 ⟨Nat.zero_le _, Nat.zero_le _⟩ ?_
          exact hret 64 ls (z_later f 0 1) _ dX5_slotConfirmed_64 rfl rfl (congrArg Value.int (by simp only [z_onConf, z_canC, if_neg c_9, if_pos c_23, if_neg c_39, if_neg c_53]))
    · -- 23 f
      refine lv_iconst (v := 1) hx hb dX5_slotConfirmed_26 (by decide) ?_
      refine lv_goto (tgt := 31) hx hb dX5_slotConfirmed_27 (by decide) ?_
      refine lv_aload_n hx hb dX5_slotConfirmed_31 rfl (lv_at hl 0 rfl) ?_
      refine lv_aload_n hx hb dX5_slotConfirmed_32 rfl (lv_at hl 0 rfl) ?_
      refine va_get (D := D) (ci := 5) (v := .ref (ad 7)) (C := RX5) (T := TX5) (N := 9) hx hb hts iX5_slotConfirmed_X5 hown hK hP 0 rfl rfl 5 (by decide) (hts _ qX5_slotConfirmed_3) (fun _ h9 => h9) rfl dX5_slotConfirmed_33 ?_
      refine zVR (As := [.ref (ad 7)]) (rest := [.int 1, .ref (ad 0)]) ⟨hx, hb, hml, hown, hts⟩ (k_X5_isGood_7 l D cI ad K v f p a st n k tb tl ob im md rn) (cwV 1 hts gX5_slotConfirmed_X5_isGood rfl rfl rfl (by decide +kernel) ⟨Nat.le_of_ble_eq_true rfl, Nat.le_of_ble_eq_true rfl⟩) hP hK hN [0, 1, 2, 3, 4, 5, 6, 7, 8, 9, 10, 11] rfl (va_recv hK hP (ci := 5) (q0 := 0) rfl rfl) rfl hl.1 rfl (Nat.le_of_ble_eq_true rfl) dX5_slotConfirmed_36 ⟨Nat.zero_le _, Nat.zero_le _⟩ ?_
      refine lv_if_eq (tgt := 60) hx hb dX5_slotConfirmed_39 (by decide) (fun c_39 => ?_) (fun c_39 => ?_)
      · -- 39 t
        refine lv_iconst (v := 0) hx hb dX5_slotConfirmed_60 (by decide) ?_
        refine zVR (As := [.int 1, .int 0]) (rest := []) ⟨hx, hb, hml, hown, hts⟩ (k_X5_later l D cI ad K v f p a st n k tb tl ob im md rn 1 0) (cwV 2 hts gX5_slotConfirmed_X5_later rfl rfl rfl (by decide +kernel) ⟨Nat.le_of_ble_eq_true rfl, Nat.le_of_ble_eq_true rfl⟩) hP hK hN [0, 1, 2, 3, 4, 5, 6, 7, 8, 9, 10, 11] rfl (va_recv hK hP (ci := 5) (q0 := 0) rfl rfl) rfl hl.1 rfl (Nat.le_of_ble_eq_true rfl) dX5_slotConfirmed_61 ⟨Nat.zero_le _, Nat.zero_le _⟩ ?_
        exact hret 64 ls (z_later f 1 0) _ dX5_slotConfirmed_64 rfl rfl (congrArg Value.int (by simp only [z_onConf, z_canC, if_neg c_9, if_neg c_23, if_pos c_39]))
      · -- 39 f
        refine lv_aload_n hx hb dX5_slotConfirmed_42 rfl (lv_at hl 0 rfl) ?_
        refine va_get (D := D) (ci := 5) (v := .ref (ad 7)) (C := RX5) (T := TX5) (N := 9) hx hb hts iX5_slotConfirmed_X5 hown hK hP 0 rfl rfl 5 (by decide) (hts _ qX5_slotConfirmed_3) (fun _ h9 => h9) rfl dX5_slotConfirmed_43 ?_
        refine lv_aload_n hx hb dX5_slotConfirmed_46 rfl (lv_at hl 0 rfl) ?_
        refine va_get (D := D) (ci := 5) (v := .ref (ad 2)) (C := RX5) (T := TX5) (N := 9) hx hb hts iX5_slotConfirmed_X5 hown hK hP 0 rfl rfl 2 (by decide) (hts _ qX5_slotConfirmed_2) (fun _ h9 => h9) rfl dX5_slotConfirmed_47 ?_
        refine zVR (As := [.ref (ad 2)]) (rest := [.int 1, .ref (ad 0)]) ⟨hx, hb, hml, hown, hts⟩ (k_X3_isConfirmed l D cI (ad 7) (ad 2) (ad 3) 7 224 416 f p a st n k) (cwV 1 hts gX5_slotConfirmed_X3_isConfirmed rfl rfl rfl (by decide +kernel) ⟨Nat.le_of_ble_eq_true rfl, Nat.le_of_ble_eq_true rfl⟩) hP hK hN [7, 2, 3] rfl (va_recv hK hP (ci := 3) (q0 := 7) rfl rfl) rfl hl.1 rfl (Nat.le_of_ble_eq_true rfl) dX5_slotConfirmed_50 ⟨Nat.zero_le _, Nat.zero_le _⟩ ?_
        refine lv_if_eq (tgt := 60) hx hb dX5_slotConfirmed_53 (by decide) (fun c_53 => ?_) (fun c_53 => ?_)
        · -- 53 t
          refine lv_iconst (v := 0) hx hb dX5_slotConfirmed_60 (by decide) ?_
          refine zVR (As := [.int 1, .int 0]) (rest := []) ⟨hx, hb, hml, hown, hts⟩ (k_X5_later l D cI ad K v f p a st n k tb tl ob im md rn 1 0) (cwV 2 hts gX5_slotConfirmed_X5_later rfl rfl rfl (by decide +kernel) ⟨Nat.le_of_ble_eq_true rfl, Nat.le_of_ble_eq_true rfl⟩) hP hK hN [0, 1, 2, 3, 4, 5, 6, 7, 8, 9, 10, 11] rfl (va_recv hK hP (ci := 5) (q0 := 0) rfl rfl) rfl hl.1 rfl (Nat.le_of_ble_eq_true rfl) dX5_slotConfirmed_61 ⟨Nat.zero_le _, Nat.zero_le _⟩ ?_
          exact hret 64 ls (z_later f 1 0) _ dX5_slotConfirmed_64 rfl rfl (congrArg Value.int (by simp only [z_onConf, z_canC, if_neg c_9, if_neg c_23, if_neg c_39, if_pos c_53]))
        · -- 53 f
          refine lv_iconst (v := 1) hx hb dX5_slotConfirmed_56 (by decide) ?_
          refine lv_goto (tgt := 61) hx hb dX5_slotConfirmed_57 (by decide) ?_
          refine zVR (As := [.int 1, .int 1]) (rest := []) ⟨hx, hb, hml, hown, hts⟩ (k_X5_later l D cI ad K v f p a st n k tb tl ob im md rn 1 1) (cwV 2 hts gX5_slotConfirmed_X5_later rfl rfl rfl (by decide +kernel) ⟨Nat.le_of_ble_eq_true rfl, Nat.le_of_ble_eq_true rfl⟩) hP hK hN [0, 1, 2, 3, 4, 5, 6, 7, 8, 9, 10, 11] rfl (va_recv hK hP (ci := 5) (q0 := 0) rfl rfl) rfl hl.1 rfl (Nat.le_of_ble_eq_true rfl) dX5_slotConfirmed_61 ⟨Nat.zero_le _, Nat.zero_le _⟩ ?_
          exact hret 64 ls (z_later f 1 1) _ dX5_slotConfirmed_64 rfl rfl (congrArg Value.int (by simp only [z_onConf, z_canC, if_neg c_9, if_neg c_23, if_neg c_39, if_neg c_53]))
