-- slots, the manifest, the tape, the patch
def z_sConf (hd : Int32) (f : RW) : Int32 := if z_at f (hd + 7) = 0 then 1 else 0
def z_sTrial (hd : Int32) (f : RW) : Int32 := if z_sConf hd f = 0 then (if z_at f (hd + 6) = 0 then 0 else 1) else 0
def z_sWhole (hd : Int32) (f : RW) : Int32 := if z_at f (hd + 8) = 0 then 1 else 0
def z_sGood (sd hd : Int32) (f : RW) (least : Int32) : Int32 :=
  if z_sWhole hd f = 0 then 0 else if z_isLen (z_at f hd) = 0 then 0 else if z_at f (hd + 1) < least then 0 else if z_digO f sd (z_at f hd) = z_word f (hd + 2) then 1 else 0
def z_eImgN (fp : Nat) (F : FS) : Nat → FS
  | 0 => F
  | i + 1 => z_erase (fp + i) (z_eImgN fp F i)
def z_eImg (fp : Nat) (F : FS) : FS := z_eImgN fp F 6
def z_name (hd len seq dig : Int32) (F : FS) : FS := z_pw (hd + 2) dig (z_prog (hd + 1) seq (z_prog hd len F))
def z_mwordN (ob : RW) (b : Nat) : Nat → Int32
  | 0 => 0
  | i + 1 => (z_mwordN ob b i <<< (8 &&& 31)) ||| ob (b + i)
def z_mword (ob : RW) (b : Nat) : Int32 := z_mwordN ob b 4
def z_mRange (ob : RW) : Int32 := if z_isSeq (ob 1) = 0 then 0 else if z_isLen (ob 6) = 0 then 0 else if z_isLen (ob 11) = 0 then 0 else 1
def z_mTag (ob K : RW) : Int32 := if z_dig (z_dig 0 K 8 8) ob 20 16 = z_mword ob 16 then 1 else 0
def z_rdPN (f ob : RW) : Nat → RW
  | 0 => ob
  | i + 1 => upd (z_rdPN f ob i) i (z_at f (nI (640 + i)))
def z_rdP (f ob : RW) : RW := z_rdPN f ob 20
def z_rdT (tb ob : RW) : RW := va_cpy tb ob (0 : Int32).toNatClampNeg (0 : Int32).toNatClampNeg (20 : Int32).toNatClampNeg
def z_standN (f ob : RW) : Nat → Nat → Int32
  | 0, _ => 1
  | d + 1, i => if ob i = z_at f (nI (640 + i)) then z_standN f ob d (i + 1) else 0
def z_stand (f ob : RW) : Int32 := z_standN f ob 20 0
def z_tbyte (x : Int64) (m : Nat) : Int32 := Int64.toInt32 (zlushr x (nI (8 * m))) &&& 255
def z_addN (x : Int64) : Nat → RW → Nat → RW
  | 0, tb, _ => tb
  | m + 1, tb, t => z_addN x m (upd tb t (z_tbyte x m)) (t + 1)
def z_add (x : Int64) (nn : Nat) : RW × Nat → Int32 × RW × Nat
  | (tb, t) => if t + nn ≤ 192 then (1, z_addN x nn tb t, t + nn) else (0, tb, t)
def z_takeN (f : RW) (fr : Nat) (im : RW) (md : Nat) : Nat → RW
  | 0 => im
  | i + 1 => upd (z_takeN f fr im md i) (md + i) (z_at f (nI (fr + i)))
def z_take (f : RW) (fr ct : Nat) : RW × Nat → Int32 × RW × Nat
  | (im, md) => if md + ct ≤ 192 then (1, z_takeN f fr im md ct, md + ct) else (0, im, md)
def z_takeB2 : Int32 × RW × Nat → Int32 × RW × Nat
  | (r, im, md) => if r = 0 then (0, im, md) else (1, im, md)
def z_takeB (f : RW) (bs bl pl ct : Nat) : RW × Nat → Int32 × RW × Nat
  | (im, md) => if bl < pl + ct then (0, im, md) else z_takeB2 (z_take f (bs + pl) ct (im, md))
def zb (f : RW) (i : Nat) : Nat := (f i).toNatClampNeg
def zbOk (f : RW) : Prop := ∀ j, j < 768 → f j = nI (zb f j) ∧ zb f j < 256
def z_unfN (f : RW) (pn bs bl : Nat) : Nat → Nat → RW × Nat → Int32 × RW × Nat
  | 0, _, (im, md) => (0, im, md)
  | g + 1, i, (im, md) => if pn ≤ i then (1, im, md) else
      if zb f (448 + i) < 128 then
        (if pn < i + (1 + (zb f (448 + i) + 1)) then (0, im, md) else
          match z_take f (448 + i + 1) (zb f (448 + i) + 1) (im, md) with
          | (r, im1, md1) => if r = 0 then (0, im1, md1) else z_unfN f pn bs bl g (i + (1 + (zb f (448 + i) + 1))) (im1, md1))
      else
        (if pn < i + 2 then (0, im, md) else
          match z_takeB f bs bl (zb f (448 + i + 1)) (zb f (448 + i) - 128 + 1) (im, md) with
          | (r, im1, md1) => if r = 0 then (0, im1, md1) else z_unfN f pn bs bl g (i + 2) (im1, md1))
def z_unf (f : RW) (pn bs bl : Nat) (im : RW) : Int32 × RW × Nat := z_unfN f pn bs bl (pn + 1) 0 (im, 0)
theorem z_atIn {f : RW} {i : Nat} (h : i < 768) : z_at f (nI i) = f i := by
  rw [z_at, if_neg (nI_pos (by omega)), if_neg (show ¬ (768 : Int32) ≤ nI i from fun q => absurd ((nI_leI (a := 768) (b := i) (by omega) (by omega)).mp q) (by omega)), nI_clamp (by omega)]
theorem z_atB {f : RW} (h : zbOk f) {i : Nat} (hi : i < 768) : z_at f (nI i) = nI (zb f i) := by rw [z_atIn hi]; exact (h i hi).1
theorem z_sub1 {a b : Nat} (h : b ≤ a) : nI a - nI b = nI (a - b) := pk_sub h
theorem z_dec (m : Nat) : nI (m + 1) - 1 = nI m := nI_pred m
theorem z_decM (m : Nat) : nI (m + 1) + Int32.ofInt (-1) = nI m := pk_m1 m
theorem z_addm1 (x : Int32) : x + Int32.ofInt (-1) = x - 1 := by rw [Int32.sub_eq_add_neg]; rfl
theorem z_take_le {f : RW} {fr ct md md1 : Nat} {im im1 : RW} {r : Int32} (h : (r, im1, md1) = z_take f fr ct (im, md)) (hm : md ≤ 192) : md1 ≤ 192 := by
  rw [z_take] at h
  split at h
  · cases h; assumption
  · cases h; exact hm
theorem z_takeB_le {f : RW} {bs bl pl ct md md1 : Nat} {im im1 : RW} {r : Int32} (h : (r, im1, md1) = z_takeB f bs bl pl ct (im, md)) (hm : md ≤ 192) : md1 ≤ 192 := by
  rw [z_takeB] at h
  split at h
  · cases h; exact hm
  · cases h1 : z_take f (bs + pl) ct (im, md) with
    | mk a b =>
      obtain ⟨b, c⟩ := b
      have h2 := z_take_le h1.symm hm
      rw [h1, z_takeB2] at h
      split at h <;> (cases h; exact h2)
abbrev rm_X3_length : Room := { frames := 1, cells := 0, slots := 0, locals := 21 }
set_option maxRecDepth 20000 in
theorem qX3_length_1 : (Cond.fieldLink RX3 18 "FlashBoot$Slot" "header" "I" : Cond) ∈ wsX3_length := List.mem_of_getElem? (i := 1) rfl
set_option maxRecDepth 20000 in
theorem iX3_length_X3 : ∀ w ∈ wsX30, w ∈ wsX3_length := by decide +kernel
set_option maxHeartbeats 4000000 in
set_option maxRecDepth 100000 in
theorem k_X3_length (l : Launch) (D : va_G) (cI : ClassId) (g h q : Nat) (fp : Nat) (sd : Int32) (hd : Int32) (f : RW) (p : Int32) (a : Int32) (st : Int32) (n : Int32) (k : Int32)   : zMR l D cI yX3_length wsX3_length rm_X3_length [.ref g, .ref h] (wS cI g h q fp sd hd f p a st n k) (.int (z_at f hd)) := by
  refine zEntR (cc := cX3_length) (maxL := 2) (ret := (some .int)) (own := RX3) (lvs := [(0, .ref g), (1, .ref h)]) (by decide) rfl rfl rfl rfl (Nat.le_of_ble_eq_true rfl) rfl ?_
  intro p0 e s m args below meth c Q ls hx hb hml hts hown hP hK hN hl hret hretA
  refine lv_aload_n hx hb dX3_length_0 rfl (lv_at hl 1 rfl) ?_
  refine lv_aload_n hx hb dX3_length_1 rfl (lv_at hl 0 rfl) ?_
  refine va_get (D := D) (ci := 3) (v := .int hd) (C := RX3) (T := TX3) (N := 3) hx hb hts iX3_length_X3 hown hK hP 0 rfl rfl 2 (by decide) (hts _ qX3_length_1) (fun _ h9 => h9) rfl dX3_length_2 ?_
  refine zVR (As := [.int hd]) (rest := []) ⟨hx, hb, hml, hown, hts⟩ (k_X0_at l D cI h q f p a st n k hd) (cwV 1 hts gX3_length_X0_at rfl rfl rfl (by decide +kernel) ⟨Nat.le_of_ble_eq_true rfl, Nat.le_of_ble_eq_true rfl⟩) hP hK hN [1, 2] rfl (va_recv hK hP (ci := 0) (q0 := 1) rfl rfl) rfl hl.1 rfl (Nat.le_of_ble_eq_true rfl) dX3_length_5 ⟨Nat.zero_le _, Nat.zero_le _⟩ ?_
  exact hret 8 ls (z_at f hd) _ dX3_length_8 rfl rfl (congrArg Value.int (by rfl))
abbrev rm_X3_sequence : Room := { frames := 1, cells := 0, slots := 0, locals := 21 }
set_option maxRecDepth 20000 in
theorem qX3_sequence_1 : (Cond.fieldLink RX3 18 "FlashBoot$Slot" "header" "I" : Cond) ∈ wsX3_sequence := List.mem_of_getElem? (i := 1) rfl
set_option maxRecDepth 20000 in
theorem iX3_sequence_X3 : ∀ w ∈ wsX30, w ∈ wsX3_sequence := by decide +kernel
set_option maxHeartbeats 4000000 in
set_option maxRecDepth 100000 in
theorem k_X3_sequence (l : Launch) (D : va_G) (cI : ClassId) (g h q : Nat) (fp : Nat) (sd : Int32) (hd : Int32) (f : RW) (p : Int32) (a : Int32) (st : Int32) (n : Int32) (k : Int32)   : zMR l D cI yX3_sequence wsX3_sequence rm_X3_sequence [.ref g, .ref h] (wS cI g h q fp sd hd f p a st n k) (.int (z_at f (hd + 1))) := by
  refine zEntR (cc := cX3_sequence) (maxL := 2) (ret := (some .int)) (own := RX3) (lvs := [(0, .ref g), (1, .ref h)]) (by decide) rfl rfl rfl rfl (Nat.le_of_ble_eq_true rfl) rfl ?_
  intro p0 e s m args below meth c Q ls hx hb hml hts hown hP hK hN hl hret hretA
  refine lv_aload_n hx hb dX3_sequence_0 rfl (lv_at hl 1 rfl) ?_
  refine lv_aload_n hx hb dX3_sequence_1 rfl (lv_at hl 0 rfl) ?_
  refine va_get (D := D) (ci := 3) (v := .int hd) (C := RX3) (T := TX3) (N := 3) hx hb hts iX3_sequence_X3 hown hK hP 0 rfl rfl 2 (by decide) (hts _ qX3_sequence_1) (fun _ h9 => h9) rfl dX3_sequence_2 ?_
  refine lv_iconst (v := 1) hx hb dX3_sequence_5 (by decide) ?_
  refine lv_iadd hx hb dX3_sequence_6 ?_
  refine zVR (As := [.int (hd + 1)]) (rest := []) ⟨hx, hb, hml, hown, hts⟩ (k_X0_at l D cI h q f p a st n k (hd + 1)) (cwV 1 hts gX3_sequence_X0_at rfl rfl rfl (by decide +kernel) ⟨Nat.le_of_ble_eq_true rfl, Nat.le_of_ble_eq_true rfl⟩) hP hK hN [1, 2] rfl (va_recv hK hP (ci := 0) (q0 := 1) rfl rfl) rfl hl.1 rfl (Nat.le_of_ble_eq_true rfl) dX3_sequence_7 ⟨Nat.zero_le _, Nat.zero_le _⟩ ?_
  exact hret 10 ls (z_at f (hd + 1)) _ dX3_sequence_10 rfl rfl (congrArg Value.int (by rfl))
abbrev rm_X3_digest : Room := { frames := 2, cells := 0, slots := 0, locals := 44 }
set_option maxRecDepth 20000 in
theorem qX3_digest_1 : (Cond.fieldLink RX3 18 "FlashBoot$Slot" "header" "I" : Cond) ∈ wsX3_digest := List.mem_of_getElem? (i := 1) rfl
set_option maxRecDepth 20000 in
theorem iX3_digest_X3 : ∀ w ∈ wsX30, w ∈ wsX3_digest := by decide +kernel
set_option maxHeartbeats 4000000 in
set_option maxRecDepth 100000 in
theorem k_X3_digest (l : Launch) (D : va_G) (cI : ClassId) (g h q : Nat) (fp : Nat) (sd : Int32) (hd : Int32) (f : RW) (p : Int32) (a : Int32) (st : Int32) (n : Int32) (k : Int32)   : zMR l D cI yX3_digest wsX3_digest rm_X3_digest [.ref g, .ref h] (wS cI g h q fp sd hd f p a st n k) (.int (z_word f (hd + 2))) := by
  refine zEntR (cc := cX3_digest) (maxL := 2) (ret := (some .int)) (own := RX3) (lvs := [(0, .ref g), (1, .ref h)]) (by decide) rfl rfl rfl rfl (Nat.le_of_ble_eq_true rfl) rfl ?_
  intro p0 e s m args below meth c Q ls hx hb hml hts hown hP hK hN hl hret hretA
  refine lv_aload_n hx hb dX3_digest_0 rfl (lv_at hl 1 rfl) ?_
  refine lv_aload_n hx hb dX3_digest_1 rfl (lv_at hl 0 rfl) ?_
  refine va_get (D := D) (ci := 3) (v := .int hd) (C := RX3) (T := TX3) (N := 3) hx hb hts iX3_digest_X3 hown hK hP 0 rfl rfl 2 (by decide) (hts _ qX3_digest_1) (fun _ h9 => h9) rfl dX3_digest_2 ?_
  refine lv_iconst (v := 2) hx hb dX3_digest_5 (by decide) ?_
  refine lv_iadd hx hb dX3_digest_6 ?_
  refine zVR (As := [.int (hd + 2)]) (rest := []) ⟨hx, hb, hml, hown, hts⟩ (k_X0_word l D cI h q f p a st n k (hd + 2)) (cwV 1 hts gX3_digest_X0_word rfl rfl rfl (by decide +kernel) ⟨Nat.le_of_ble_eq_true rfl, Nat.le_of_ble_eq_true rfl⟩) hP hK hN [1, 2] rfl (va_recv hK hP (ci := 0) (q0 := 1) rfl rfl) rfl hl.1 rfl (Nat.le_of_ble_eq_true rfl) dX3_digest_7 ⟨Nat.zero_le _, Nat.zero_le _⟩ ?_
  exact hret 10 ls (z_word f (hd + 2)) _ dX3_digest_10 rfl rfl (congrArg Value.int (by rfl))
abbrev rm_X3_isConfirmed : Room := { frames := 1, cells := 0, slots := 0, locals := 21 }
set_option maxRecDepth 20000 in
theorem qX3_isConfirmed_1 : (Cond.fieldLink RX3 18 "FlashBoot$Slot" "header" "I" : Cond) ∈ wsX3_isConfirmed := List.mem_of_getElem? (i := 1) rfl
set_option maxRecDepth 20000 in
theorem iX3_isConfirmed_X3 : ∀ w ∈ wsX30, w ∈ wsX3_isConfirmed := by decide +kernel
set_option maxHeartbeats 4000000 in
set_option maxRecDepth 100000 in
theorem k_X3_isConfirmed (l : Launch) (D : va_G) (cI : ClassId) (g h q : Nat) (fp : Nat) (sd : Int32) (hd : Int32) (f : RW) (p : Int32) (a : Int32) (st : Int32) (n : Int32) (k : Int32)   : zMR l D cI yX3_isConfirmed wsX3_isConfirmed rm_X3_isConfirmed [.ref g, .ref h] (wS cI g h q fp sd hd f p a st n k) (.int (z_sConf hd f)) := by
  refine zEntR (cc := cX3_isConfirmed) (maxL := 2) (ret := (some .boolean)) (own := RX3) (lvs := [(0, .ref g), (1, .ref h)]) (by decide) rfl rfl rfl rfl (Nat.le_of_ble_eq_true rfl) rfl ?_
  intro p0 e s m args below meth c Q ls hx hb hml hts hown hP hK hN hl hret hretA
  refine lv_aload_n hx hb dX3_isConfirmed_0 rfl (lv_at hl 1 rfl) ?_
  refine lv_aload_n hx hb dX3_isConfirmed_1 rfl (lv_at hl 0 rfl) ?_
  refine va_get (D := D) (ci := 3) (v := .int hd) (C := RX3) (T := TX3) (N := 3) hx hb hts iX3_isConfirmed_X3 hown hK hP 0 rfl rfl 2 (by decide) (hts _ qX3_isConfirmed_1) (fun _ h9 => h9) rfl dX3_isConfirmed_2 ?_
  refine lv_bipush (v := 7) hx hb dX3_isConfirmed_5 (by decide) ?_
  refine lv_iadd hx hb dX3_isConfirmed_7 ?_
  refine zVR (As := [.int (hd + 7)]) (rest := []) ⟨hx, hb, hml, hown, hts⟩ (k_X0_at l D cI h q f p a st n k (hd + 7)) (cwV 1 hts gX3_isConfirmed_X0_at rfl rfl rfl (by decide +kernel) ⟨Nat.le_of_ble_eq_true rfl, Nat.le_of_ble_eq_true rfl⟩) hP hK hN [1, 2] rfl (va_recv hK hP (ci := 0) (q0 := 1) rfl rfl) rfl hl.1 rfl (Nat.le_of_ble_eq_true rfl) dX3_isConfirmed_8 ⟨Nat.zero_le _, Nat.zero_le _⟩ ?_
  refine lv_if_ne (tgt := 18) hx hb dX3_isConfirmed_11 (by decide) (fun c_11 => ?_) (fun c_11 => ?_)
  · -- 11 t
    refine lv_iconst (v := 0) hx hb dX3_isConfirmed_18 (by decide) ?_
    exact hret 19 ls 0 _ dX3_isConfirmed_19 rfl rfl (congrArg Value.int (by simp only [z_sConf, if_neg c_11]))
  · -- 11 f
    refine lv_iconst (v := 1) hx hb dX3_isConfirmed_14 (by decide) ?_
    refine lv_goto (tgt := 19) hx hb dX3_isConfirmed_15 (by decide) ?_
    exact hret 19 ls 1 _ dX3_isConfirmed_19 rfl rfl (congrArg Value.int (by simp only [z_sConf, if_pos c_11]))
abbrev rm_X3_isOnTrial : Room := { frames := 2, cells := 0, slots := 0, locals := 42 }
set_option maxRecDepth 20000 in
theorem qX3_isOnTrial_1 : (Cond.fieldLink RX3 18 "FlashBoot$Slot" "header" "I" : Cond) ∈ wsX3_isOnTrial := List.mem_of_getElem? (i := 1) rfl
set_option maxRecDepth 20000 in
theorem iX3_isOnTrial_X3 : ∀ w ∈ wsX30, w ∈ wsX3_isOnTrial := by decide +kernel
set_option maxHeartbeats 4000000 in
set_option maxRecDepth 100000 in
theorem k_X3_isOnTrial (l : Launch) (D : va_G) (cI : ClassId) (g h q : Nat) (fp : Nat) (sd : Int32) (hd : Int32) (f : RW) (p : Int32) (a : Int32) (st : Int32) (n : Int32) (k : Int32)   : zMR l D cI yX3_isOnTrial wsX3_isOnTrial rm_X3_isOnTrial [.ref g, .ref h] (wS cI g h q fp sd hd f p a st n k) (.int (z_sTrial hd f)) := by
  refine zEntR (cc := cX3_isOnTrial) (maxL := 2) (ret := (some .boolean)) (own := RX3) (lvs := [(0, .ref g), (1, .ref h)]) (by decide) rfl rfl rfl rfl (Nat.le_of_ble_eq_true rfl) rfl ?_
  intro p0 e s m args below meth c Q ls hx hb hml hts hown hP hK hN hl hret hretA
  refine lv_aload_n hx hb dX3_isOnTrial_0 rfl (lv_at hl 0 rfl) ?_
  refine lv_aload_n hx hb dX3_isOnTrial_1 rfl (lv_at hl 1 rfl) ?_
  refine zVR (As := [.ref h]) (rest := []) ⟨hx, hb, hml, hown, hts⟩ (k_X3_isConfirmed l D cI g h q fp sd hd f p a st n k) (cwV 1 hts gX3_isOnTrial_X3_isConfirmed rfl rfl rfl (by decide +kernel) ⟨Nat.le_of_ble_eq_true rfl, Nat.le_of_ble_eq_true rfl⟩) hP hK hN [0, 1, 2] rfl (va_recv hK hP (ci := 3) (q0 := 0) rfl rfl) rfl hl.1 rfl (Nat.le_of_ble_eq_true rfl) dX3_isOnTrial_2 ⟨Nat.zero_le _, Nat.zero_le _⟩ ?_
  refine lv_if_ne (tgt := 26) hx hb dX3_isOnTrial_5 (by decide) (fun c_5 => ?_) (fun c_5 => ?_)
  · -- 5 t
    refine lv_iconst (v := 0) hx hb dX3_isOnTrial_26 (by decide) ?_
    exact hret 27 ls 0 _ dX3_isOnTrial_27 rfl rfl (congrArg Value.int (by simp only [z_sTrial, if_neg c_5]))
  · -- 5 f
    refine lv_aload_n hx hb dX3_isOnTrial_8 rfl (lv_at hl 1 rfl) ?_
    refine lv_aload_n hx hb dX3_isOnTrial_9 rfl (lv_at hl 0 rfl) ?_
    refine va_get (D := D) (ci := 3) (v := .int hd) (C := RX3) (T := TX3) (N := 3) hx hb hts iX3_isOnTrial_X3 hown hK hP 0 rfl rfl 2 (by decide) (hts _ qX3_isOnTrial_1) (fun _ h9 => h9) rfl dX3_isOnTrial_10 ?_
    refine lv_bipush (v := 6) hx hb dX3_isOnTrial_13 (by decide) ?_
    refine lv_iadd hx hb dX3_isOnTrial_15 ?_
    refine zVR (As := [.int (hd + 6)]) (rest := []) ⟨hx, hb, hml, hown, hts⟩ (k_X0_at l D cI h q f p a st n k (hd + 6)) (cwV 1 hts gX3_isOnTrial_X0_at rfl rfl rfl (by decide +kernel) ⟨Nat.le_of_ble_eq_true rfl, Nat.le_of_ble_eq_true rfl⟩) hP hK hN [1, 2] rfl (va_recv hK hP (ci := 0) (q0 := 1) rfl rfl) rfl hl.1 rfl (Nat.le_of_ble_eq_true rfl) dX3_isOnTrial_16 ⟨Nat.zero_le _, Nat.zero_le _⟩ ?_
    refine lv_if_eq (tgt := 26) hx hb dX3_isOnTrial_19 (by decide) (fun c_19 => ?_) (fun c_19 => ?_)
    · -- 19 t
      refine lv_iconst (v := 0) hx hb dX3_isOnTrial_26 (by decide) ?_
      exact hret 27 ls 0 _ dX3_isOnTrial_27 rfl rfl (congrArg Value.int (by simp only [z_sTrial, if_pos c_5, if_pos c_19]))
    · -- 19 f
      refine lv_iconst (v := 1) hx hb dX3_isOnTrial_22 (by decide) ?_
      refine lv_goto (tgt := 27) hx hb dX3_isOnTrial_23 (by decide) ?_
      exact hret 27 ls 1 _ dX3_isOnTrial_27 rfl rfl (congrArg Value.int (by simp only [z_sTrial, if_pos c_5, if_neg c_19]))
abbrev rm_X3_isWhole : Room := { frames := 1, cells := 0, slots := 0, locals := 21 }
set_option maxRecDepth 20000 in
theorem qX3_isWhole_1 : (Cond.fieldLink RX3 18 "FlashBoot$Slot" "header" "I" : Cond) ∈ wsX3_isWhole := List.mem_of_getElem? (i := 1) rfl
set_option maxRecDepth 20000 in
theorem iX3_isWhole_X3 : ∀ w ∈ wsX30, w ∈ wsX3_isWhole := by decide +kernel
set_option maxHeartbeats 4000000 in
set_option maxRecDepth 100000 in
theorem k_X3_isWhole (l : Launch) (D : va_G) (cI : ClassId) (g h q : Nat) (fp : Nat) (sd : Int32) (hd : Int32) (f : RW) (p : Int32) (a : Int32) (st : Int32) (n : Int32) (k : Int32)   : zMR l D cI yX3_isWhole wsX3_isWhole rm_X3_isWhole [.ref g, .ref h] (wS cI g h q fp sd hd f p a st n k) (.int (z_sWhole hd f)) := by
  refine zEntR (cc := cX3_isWhole) (maxL := 2) (ret := (some .boolean)) (own := RX3) (lvs := [(0, .ref g), (1, .ref h)]) (by decide) rfl rfl rfl rfl (Nat.le_of_ble_eq_true rfl) rfl ?_
  intro p0 e s m args below meth c Q ls hx hb hml hts hown hP hK hN hl hret hretA
  refine lv_aload_n hx hb dX3_isWhole_0 rfl (lv_at hl 1 rfl) ?_
  refine lv_aload_n hx hb dX3_isWhole_1 rfl (lv_at hl 0 rfl) ?_
  refine va_get (D := D) (ci := 3) (v := .int hd) (C := RX3) (T := TX3) (N := 3) hx hb hts iX3_isWhole_X3 hown hK hP 0 rfl rfl 2 (by decide) (hts _ qX3_isWhole_1) (fun _ h9 => h9) rfl dX3_isWhole_2 ?_
  refine lv_bipush (v := 8) hx hb dX3_isWhole_5 (by decide) ?_
  refine lv_iadd hx hb dX3_isWhole_7 ?_
  refine zVR (As := [.int (hd + 8)]) (rest := []) ⟨hx, hb, hml, hown, hts⟩ (k_X0_at l D cI h q f p a st n k (hd + 8)) (cwV 1 hts gX3_isWhole_X0_at rfl rfl rfl (by decide +kernel) ⟨Nat.le_of_ble_eq_true rfl, Nat.le_of_ble_eq_true rfl⟩) hP hK hN [1, 2] rfl (va_recv hK hP (ci := 0) (q0 := 1) rfl rfl) rfl hl.1 rfl (Nat.le_of_ble_eq_true rfl) dX3_isWhole_8 ⟨Nat.zero_le _, Nat.zero_le _⟩ ?_
  refine lv_if_ne (tgt := 18) hx hb dX3_isWhole_11 (by decide) (fun c_11 => ?_) (fun c_11 => ?_)
  · -- 11 t
    refine lv_iconst (v := 0) hx hb dX3_isWhole_18 (by decide) ?_
    exact hret 19 ls 0 _ dX3_isWhole_19 rfl rfl (congrArg Value.int (by simp only [z_sWhole, if_neg c_11]))
  · -- 11 f
    refine lv_iconst (v := 1) hx hb dX3_isWhole_14 (by decide) ?_
    refine lv_goto (tgt := 19) hx hb dX3_isWhole_15 (by decide) ?_
    exact hret 19 ls 1 _ dX3_isWhole_19 rfl rfl (congrArg Value.int (by simp only [z_sWhole, if_pos c_11]))
abbrev rm_X3_isGood : Room := { frames := 3, cells := 0, slots := 0, locals := 65 }
set_option maxRecDepth 20000 in
theorem qX3_isGood_19 : (Cond.initialized RX5 : Cond) ∈ wsX3_isGood := List.mem_of_getElem? (i := 19) rfl
set_option maxRecDepth 20000 in
theorem qX3_isGood_18 : (Cond.static yX5_isLength : Cond) ∈ wsX3_isGood := List.mem_of_getElem? (i := 18) rfl
set_option maxRecDepth 20000 in
theorem qX3_isGood_1 : (Cond.fieldLink RX3 15 "FlashBoot$Slot" "start" "I" : Cond) ∈ wsX3_isGood := List.mem_of_getElem? (i := 1) rfl
set_option maxRecDepth 20000 in
theorem iX3_isGood_X3 : ∀ w ∈ wsX30, w ∈ wsX3_isGood := by decide +kernel
set_option maxHeartbeats 4000000 in
set_option maxRecDepth 100000 in
theorem k_X3_isGood (l : Launch) (D : va_G) (cI : ClassId) (g h q : Nat) (fp : Nat) (sd : Int32) (hd : Int32) (f : RW) (p : Int32) (a : Int32) (st : Int32) (n : Int32) (k : Int32) (least : Int32)  : zMR l D cI yX3_isGood wsX3_isGood rm_X3_isGood [.ref g, .ref h, .int least] (wS cI g h q fp sd hd f p a st n k) (.int (z_sGood sd hd f least)) := by
  refine zEntR (cc := cX3_isGood) (maxL := 3) (ret := (some .boolean)) (own := RX3) (lvs := [(0, .ref g), (1, .ref h), (2, .int least)]) (by decide) rfl rfl rfl rfl (Nat.le_of_ble_eq_true rfl) rfl ?_
  intro p0 e s m args below meth c Q ls hx hb hml hts hown hP hK hN hl hret hretA
  refine lv_aload_n hx hb dX3_isGood_0 rfl (lv_at hl 0 rfl) ?_
  refine lv_aload_n hx hb dX3_isGood_1 rfl (lv_at hl 1 rfl) ?_
  refine zVR (As := [.ref h]) (rest := []) ⟨hx, hb, hml, hown, hts⟩ (k_X3_isWhole l D cI g h q fp sd hd f p a st n k) (cwV 1 hts gX3_isGood_X3_isWhole rfl rfl rfl (by decide +kernel) ⟨Nat.le_of_ble_eq_true rfl, Nat.le_of_ble_eq_true rfl⟩) hP hK hN [0, 1, 2] rfl (va_recv hK hP (ci := 3) (q0 := 0) rfl rfl) rfl hl.1 rfl (Nat.le_of_ble_eq_true rfl) dX3_isGood_2 ⟨Nat.zero_le _, Nat.zero_le _⟩ ?_
  refine lv_if_eq (tgt := 53) hx hb dX3_isGood_5 (by decide) (fun c_5 => ?_) (fun c_5 => ?_)
  · -- 5 t
    refine lv_iconst (v := 0) hx hb dX3_isGood_53 (by decide) ?_
    exact hret 54 ls 0 _ dX3_isGood_54 rfl rfl (congrArg Value.int (by simp only [z_sGood, if_pos c_5]))
  · -- 5 f
    refine lv_aload_n hx hb dX3_isGood_8 rfl (lv_at hl 0 rfl) ?_
    refine lv_aload_n hx hb dX3_isGood_9 rfl (lv_at hl 1 rfl) ?_
    refine zVR (As := [.ref h]) (rest := []) ⟨hx, hb, hml, hown, hts⟩ (k_X3_length l D cI g h q fp sd hd f p a st n k) (cwV 1 hts gX3_isGood_X3_length rfl rfl rfl (by decide +kernel) ⟨Nat.le_of_ble_eq_true rfl, Nat.le_of_ble_eq_true rfl⟩) hP hK hN [0, 1, 2] rfl (va_recv hK hP (ci := 3) (q0 := 0) rfl rfl) rfl hl.1 rfl (Nat.le_of_ble_eq_true rfl) dX3_isGood_10 ⟨Nat.zero_le _, Nat.zero_le _⟩ ?_
    refine zNR (As := [.int (z_at f hd)]) (rest := []) ⟨hx, hb, hml, hown, hts⟩ (k_X5_isLength l D cI (z_at f hd)) ⟨va_cnB 1 hts gX3_isGood_X5_isLength_n41 rfl rfl rfl (zN_at hN 17 rfl) (hts _ qX3_isGood_19) (by decide +kernel) ⟨Nat.le_of_ble_eq_true rfl, Nat.le_of_ble_eq_true rfl⟩, hts _ qX3_isGood_18, trivial⟩ hP hK hN [] rfl rfl hl.1 rfl (Nat.le_of_ble_eq_true rfl) dX3_isGood_13 ⟨Nat.zero_le _, Nat.zero_le _⟩ ?_
    refine lv_if_eq (tgt := 53) hx hb dX3_isGood_16 (by decide) (fun c_16 => ?_) (fun c_16 => ?_)
    · -- 16 t
      refine lv_iconst (v := 0) hx hb dX3_isGood_53 (by decide) ?_
      exact hret 54 ls 0 _ dX3_isGood_54 rfl rfl (congrArg Value.int (by simp only [z_sGood, if_neg c_5, if_pos c_16]))
    · -- 16 f
      refine lv_aload_n hx hb dX3_isGood_19 rfl (lv_at hl 0 rfl) ?_
      refine lv_aload_n hx hb dX3_isGood_20 rfl (lv_at hl 1 rfl) ?_
      refine zVR (As := [.ref h]) (rest := []) ⟨hx, hb, hml, hown, hts⟩ (k_X3_sequence l D cI g h q fp sd hd f p a st n k) (cwV 1 hts gX3_isGood_X3_sequence rfl rfl rfl (by decide +kernel) ⟨Nat.le_of_ble_eq_true rfl, Nat.le_of_ble_eq_true rfl⟩) hP hK hN [0, 1, 2] rfl (va_recv hK hP (ci := 3) (q0 := 0) rfl rfl) rfl hl.1 rfl (Nat.le_of_ble_eq_true rfl) dX3_isGood_21 ⟨Nat.zero_le _, Nat.zero_le _⟩ ?_
      refine lv_iload_n hx hb dX3_isGood_24 rfl (lv_at hl 2 rfl) ?_
      refine lv_icmp_lt (tgt := 53) hx hb dX3_isGood_25 (by decide) (fun c_25 => ?_) (fun c_25 => ?_)
      · -- 25 t
        refine lv_iconst (v := 0) hx hb dX3_isGood_53 (by decide) ?_
        exact hret 54 ls 0 _ dX3_isGood_54 rfl rfl (congrArg Value.int (by simp only [z_sGood, if_neg c_5, if_neg c_16, if_pos c_25]))
      · -- 25 f
        refine lv_aload_n hx hb dX3_isGood_28 rfl (lv_at hl 1 rfl) ?_
        refine lv_aload_n hx hb dX3_isGood_29 rfl (lv_at hl 0 rfl) ?_
        refine va_get (D := D) (ci := 3) (v := .int sd) (C := RX3) (T := TX3) (N := 3) hx hb hts iX3_isGood_X3 hown hK hP 0 rfl rfl 1 (by decide) (hts _ qX3_isGood_1) (fun _ h9 => h9) rfl dX3_isGood_30 ?_
        refine lv_aload_n hx hb dX3_isGood_33 rfl (lv_at hl 0 rfl) ?_
        refine lv_aload_n hx hb dX3_isGood_34 rfl (lv_at hl 1 rfl) ?_
        refine zVR (As := [.ref h]) (rest := [.int sd, .ref h]) ⟨hx, hb, hml, hown, hts⟩ (k_X3_length l D cI g h q fp sd hd f p a st n k) (cwV 1 hts gX3_isGood_X3_length rfl rfl rfl (by decide +kernel) ⟨Nat.le_of_ble_eq_true rfl, Nat.le_of_ble_eq_true rfl⟩) hP hK hN [0, 1, 2] rfl (va_recv hK hP (ci := 3) (q0 := 0) rfl rfl) rfl hl.1 rfl (Nat.le_of_ble_eq_true rfl) dX3_isGood_35 ⟨Nat.zero_le _, Nat.zero_le _⟩ ?_
        refine zVR (As := [.int sd, .int (z_at f hd)]) (rest := []) ⟨hx, hb, hml, hown, hts⟩ (k_X0_digestOf l D cI h q f p a st n k sd (z_at f hd)) (cwV 2 hts gX3_isGood_X0_digestOf rfl rfl rfl (by decide +kernel) ⟨Nat.le_of_ble_eq_true rfl, Nat.le_of_ble_eq_true rfl⟩) hP hK hN [1, 2] rfl (va_recv hK hP (ci := 0) (q0 := 1) rfl rfl) rfl hl.1 rfl (Nat.le_of_ble_eq_true rfl) dX3_isGood_38 ⟨Nat.zero_le _, Nat.zero_le _⟩ ?_
        refine lv_aload_n hx hb dX3_isGood_41 rfl (lv_at hl 0 rfl) ?_
        refine lv_aload_n hx hb dX3_isGood_42 rfl (lv_at hl 1 rfl) ?_
        refine zVR (As := [.ref h]) (rest := [.int (z_digO f sd (z_at f hd))]) ⟨hx, hb, hml, hown, hts⟩ (k_X3_digest l D cI g h q fp sd hd f p a st n k) (cwV 1 hts gX3_isGood_X3_digest rfl rfl rfl (by decide +kernel) ⟨Nat.le_of_ble_eq_true rfl, Nat.le_of_ble_eq_true rfl⟩) hP hK hN [0, 1, 2] rfl (va_recv hK hP (ci := 3) (q0 := 0) rfl rfl) rfl hl.1 rfl (Nat.le_of_ble_eq_true rfl) dX3_isGood_43 ⟨Nat.zero_le _, Nat.zero_le _⟩ ?_
        refine lv_icmp_ne (tgt := 53) hx hb dX3_isGood_46 (by decide) (fun c_46 => ?_) (fun c_46 => ?_)
        · -- 46 t
          refine lv_iconst (v := 0) hx hb dX3_isGood_53 (by decide) ?_
          exact hret 54 ls 0 _ dX3_isGood_54 rfl rfl (congrArg Value.int (by simp only [z_sGood, if_neg c_5, if_neg c_16, if_neg c_25, if_neg c_46]))
        · -- 46 f
          refine lv_iconst (v := 1) hx hb dX3_isGood_49 (by decide) ?_
          refine lv_goto (tgt := 54) hx hb dX3_isGood_50 (by decide) ?_
          exact hret 54 ls 1 _ dX3_isGood_54 rfl rfl (congrArg Value.int (by simp only [z_sGood, if_neg c_5, if_neg c_16, if_neg c_25, if_pos c_46]))
abbrev rm_X3_eraseHeader : Room := { frames := 2, cells := 0, slots := 0, locals := 43 }
set_option maxRecDepth 20000 in
theorem qX3_eraseHeader_1 : (Cond.fieldLink RX3 9 "FlashBoot$Slot" "firstPage" "I" : Cond) ∈ wsX3_eraseHeader := List.mem_of_getElem? (i := 1) rfl
set_option maxRecDepth 20000 in
theorem iX3_eraseHeader_X3 : ∀ w ∈ wsX30, w ∈ wsX3_eraseHeader := by decide +kernel
set_option maxHeartbeats 4000000 in
set_option maxRecDepth 100000 in
theorem k_X3_eraseHeader (l : Launch) (D : va_G) (cI : ClassId) (g h q : Nat) (fp : Nat) (sd : Int32) (hd : Int32) (f : RW) (p : Int32) (a : Int32) (st : Int32) (n : Int32) (k : Int32)  (hfp : fp ≤ 17) : zMW (S := RW × Int32 × Int32 × Int32 × Int32 × Int32) l D cI yX3_eraseHeader wsX3_eraseHeader rm_X3_eraseHeader [.ref g, .ref h] (wS cI g h q fp sd hd f p a st n k) (z_erase (fp + 6) (f, p, a, st, n, k)) (fun _ => none) (fun u => wS cI g h q fp sd hd u.1 u.2.1 u.2.2.1 u.2.2.2.1 u.2.2.2.2.1 u.2.2.2.2.2) := by
  refine zEntW (cc := cX3_eraseHeader) (maxL := 2) (ret := none) (own := RX3) (lvs := [(0, .ref g), (1, .ref h)]) (by decide) rfl rfl (Nat.le_of_ble_eq_true rfl) rfl ?_
  intro p0 e s m args below meth c Q ls A hx hb hml hts hown hP hK hN hD hS hA hl hret hretV
  refine lv_aload_n hx hb dX3_eraseHeader_0 rfl (lv_at hl 1 rfl) ?_
  refine lv_aload_n hx hb dX3_eraseHeader_1 rfl (lv_at hl 0 rfl) ?_
  refine va_get (D := D) (ci := 3) (v := .int (nI fp)) (C := RX3) (T := TX3) (N := 3) hx hb hts iX3_eraseHeader_X3 hown hK hP 0 rfl rfl 0 (by decide) (hts _ qX3_eraseHeader_1) (fun _ h9 => h9) rfl dX3_eraseHeader_2 ?_
  refine lv_bipush (v := 6) hx hb dX3_eraseHeader_5 (by decide) ?_
  refine lv_iadd hx hb dX3_eraseHeader_7 ?_
  refine z_top (v := nI (fp + 6)) (nI_add fp 6) ?_
  refine zVW (ws' := fun u => wS cI g h q fp sd hd u.1 u.2.1 u.2.2.1 u.2.2.2.1 u.2.2.2.2.1 u.2.2.2.2.2) (As := [.int (nI (fp + 6))]) (rest := []) ⟨hx, hb, hml, hown, hts⟩ (k_X0_erase l D cI h q f p a st n k (fp + 6) (by omega)) (cwV 1 hts gX3_eraseHeader_X0_erase rfl rfl rfl (by decide +kernel) ⟨Nat.le_of_ble_eq_true rfl, Nat.le_of_ble_eq_true rfl⟩) hP hK hN hD hS hA [1, 2] [0] [(g, .inr (3, [.int (nI fp), .int sd, .int hd]))] rfl (by decide) rfl (fun _ => rfl) (fun _ => rfl) (fun _ => rfl) rfl (va_recv hK hP (ci := 0) (q0 := 1) rfl rfl) rfl hl.1 rfl (Nat.le_of_ble_eq_true rfl) dX3_eraseHeader_8 ⟨Nat.zero_le _, Nat.zero_le _⟩ (fun u_8 H locs hu_8 hP hD hS => ?_)
  obtain ⟨f_8, p_8, a_8, st_8, n_8, k_8⟩ := u_8
  have hP : va_P D vwCl (wS cI g h q fp sd hd f_8 p_8 a_8 st_8 n_8 k_8) _ := hP
  have hD : va_D A (wS cI g h q fp sd hd f_8 p_8 a_8 st_8 n_8 k_8) := hD
  refine W.eq (g2 := F0 m 11 ls []) rfl ?_
  exact hretV 11 ls _ _ (f_8, p_8, a_8, st_8, n_8, k_8) dX3_eraseHeader_11 rfl rfl (by simp only [← hu_8]) hP hS
abbrev rm_X3_eraseImage : Room := { frames := 2, cells := 0, slots := 0, locals := 43 }
set_option maxRecDepth 20000 in
theorem qX3_eraseImage_1 : (Cond.fieldLink RX3 9 "FlashBoot$Slot" "firstPage" "I" : Cond) ∈ wsX3_eraseImage := List.mem_of_getElem? (i := 1) rfl
set_option maxRecDepth 20000 in
theorem iX3_eraseImage_X3 : ∀ w ∈ wsX30, w ∈ wsX3_eraseImage := by decide +kernel
set_option maxHeartbeats 4000000 in
set_option maxRecDepth 100000 in
theorem k_X3_eraseImage (l : Launch) (D : va_G) (cI : ClassId) (g h q : Nat) (fp : Nat) (sd : Int32) (hd : Int32) (f : RW) (p : Int32) (a : Int32) (st : Int32) (n : Int32) (k : Int32)  (hfp : fp ≤ 17) : zMW (S := RW × Int32 × Int32 × Int32 × Int32 × Int32) l D cI yX3_eraseImage wsX3_eraseImage rm_X3_eraseImage [.ref g, .ref h] (wS cI g h q fp sd hd f p a st n k) (z_eImg fp (f, p, a, st, n, k)) (fun _ => none) (fun u => wS cI g h q fp sd hd u.1 u.2.1 u.2.2.1 u.2.2.2.1 u.2.2.2.2.1 u.2.2.2.2.2) := by
  refine zEntW (cc := cX3_eraseImage) (maxL := 3) (ret := none) (own := RX3) (lvs := [(0, .ref g), (1, .ref h)]) (by decide) rfl rfl (Nat.le_of_ble_eq_true rfl) rfl ?_
  intro p0 e s m args below meth c Q ls A hx hb hml hts hown hP hK hN hD hS hA hl hret hretV
  refine lv_iconst (v := 0) hx hb dX3_eraseImage_0 (by decide) ?_
  refine lv_istore_n (lv' := [(2, .int 0), (0, .ref g), (1, .ref h)]) hx hb dX3_eraseImage_1 rfl hl (by decide) rfl (fun ls hl => ?_)
  have lp_2 : ∀ (g_2 : Nat) (i : Nat) (f9 : RW) (p9 : Int32) (a9 : Int32) (s9 : Int32) (n9 : Int32) (k9 : Int32) (H : Heap) (locs : List Loc) (ls : Array Slot), i ≤ 6 → (f9, p9, a9, s9, n9, k9) = z_eImgN fp (f, p, a, st, n, k) i → 6 - i < g_2 → va_P D vwCl (wS cI g h q fp sd hd f9 p9 a9 s9 n9 k9) H → va_D A (wS cI g h q fp sd hd f9 p9 a9 s9 n9 k9) → va_S A s.heap H locs → lv_has ls 3 [(0, .ref g), (1, .ref h), (2, .int (nI i))] → W p0 l e rm_X3_eraseImage s m args below meth c H locs 0 0 Q (F0 m 2 ls []) := by
    intro g_2
    induction g_2 with
    | zero => intro i f9 p9 a9 s9 n9 k9 H locs ls h1 hy h9_2; exact absurd h9_2 (Nat.not_lt_zero _)
    | succ g_2 ih_2 =>
      intro i f9 p9 a9 s9 n9 k9 H locs ls h1 hy h9_2 hP hD hS hl
      refine lv_iload_n hx hb dX3_eraseImage_2 rfl (lv_at hl 2 rfl) ?_
      refine lv_bipush (v := 6) hx hb dX3_eraseImage_3 (by decide) ?_
      refine z_icmp_ge (tgt := 24) hx hb dX3_eraseImage_5 (by decide) i 6 rfl rfl (by omega) (by omega) (fun c_5 => ?_) (fun c_5 => ?_)
      · -- 5 t
        exact hretV 24 ls _ _ (f9, p9, a9, s9, n9, k9) dX3_eraseImage_24 rfl rfl (by rw [z_eImg, show 6 = i by omega]; exact hy) hP hS
      · -- 5 f
        refine lv_aload_n hx hb dX3_eraseImage_8 rfl (lv_at hl 1 rfl) ?_
        refine lv_aload_n hx hb dX3_eraseImage_9 rfl (lv_at hl 0 rfl) ?_
        refine va_get (D := D) (ci := 3) (v := .int (nI fp)) (C := RX3) (T := TX3) (N := 3) hx hb hts iX3_eraseImage_X3 hown hK hP 0 rfl rfl 0 (by decide) (hts _ qX3_eraseImage_1) (fun _ h9 => h9) rfl dX3_eraseImage_10 ?_
        refine lv_iload_n hx hb dX3_eraseImage_13 rfl (lv_at hl 2 rfl) ?_
        refine lv_iadd hx hb dX3_eraseImage_14 ?_
        refine z_top (v := nI (fp + i)) (nI_add fp i) ?_
        refine zVW (ws' := fun u => wS cI g h q fp sd hd u.1 u.2.1 u.2.2.1 u.2.2.2.1 u.2.2.2.2.1 u.2.2.2.2.2) (As := [.int (nI (fp + i))]) (rest := []) ⟨hx, hb, hml, hown, hts⟩ (k_X0_erase l D cI h q f9 p9 a9 s9 n9 k9 (fp + i) (by omega)) (cwV 1 hts gX3_eraseImage_X0_erase rfl rfl rfl (by decide +kernel) ⟨Nat.le_of_ble_eq_true rfl, Nat.le_of_ble_eq_true rfl⟩) hP hK hN hD hS hA [1, 2] [0] [(g, .inr (3, [.int (nI fp), .int sd, .int hd]))] rfl (by decide) rfl (fun _ => rfl) (fun _ => rfl) (fun _ => rfl) rfl (va_recv hK hP (ci := 0) (q0 := 1) rfl rfl) rfl hl.1 rfl (Nat.le_of_ble_eq_true rfl) dX3_eraseImage_15 ⟨Nat.zero_le _, Nat.zero_le _⟩ (fun u_15 H locs hu_15 hP hD hS => ?_)
        obtain ⟨f_15, p_15, a_15, st_15, n_15, k_15⟩ := u_15
        have hP : va_P D vwCl (wS cI g h q fp sd hd f_15 p_15 a_15 st_15 n_15 k_15) _ := hP
        have hD : va_D A (wS cI g h q fp sd hd f_15 p_15 a_15 st_15 n_15 k_15) := hD
        refine W.eq (g2 := F0 m 18 ls []) rfl ?_
        refine lv_iinc (v := (nI (i + 1))) (lv' := [(2, .int (nI (i + 1))), (0, .ref g), (1, .ref h)]) hx hb dX3_eraseImage_18 hl (k := 2) rfl (z_inc _ _ rfl) (by decide) rfl (fun ls hl => ?_)
        refine lv_goto (tgt := 2) hx hb dX3_eraseImage_21 (by decide) ?_
        exact ih_2 (i + 1) f_15 p_15 a_15 st_15 n_15 k_15 _ _ _ (by omega) (by rw [hu_15, z_eImgN, ← hy]) (by omega) hP hD hS (lv_sub hl [1, 2, 0] rfl)
  exact lp_2 _ 0 f p a st n k _ _ _ (by omega) rfl (Nat.lt_succ_self _) hP hD hS (lv_sub hl [1, 2, 0] rfl)
abbrev rm_X3_programImage : Room := { frames := 3, cells := 0, slots := 0, locals := 67 }
set_option maxRecDepth 20000 in
theorem qX3_programImage_1 : (Cond.fieldLink RX3 15 "FlashBoot$Slot" "start" "I" : Cond) ∈ wsX3_programImage := List.mem_of_getElem? (i := 1) rfl
set_option maxRecDepth 20000 in
theorem iX3_programImage_X3 : ∀ w ∈ wsX30, w ∈ wsX3_programImage := by decide +kernel
set_option maxHeartbeats 4000000 in
set_option maxRecDepth 100000 in
theorem k_X3_programImage (l : Launch) (D : va_G) (cI : ClassId) (g h q r : Nat) (fp : Nat) (sd : Int32) (hd : Int32) (f : RW) (p : Int32) (a : Int32) (st : Int32) (n : Int32) (k : Int32) (row : RW) (rl : Nat) (len : Int32) (hrl : rl < 2 ^ 31) : zMW (S := RW × Int32 × Int32 × Int32 × Int32 × Int32) l D cI yX3_programImage wsX3_programImage rm_X3_programImage [.ref g, .ref h, .ref r, .int len] (wSR cI g h q r fp sd hd f p a st n k row rl) (z_row sd row rl len (f, p, a, st, n, k)) (fun _ => none) (fun u => wSR cI g h q r fp sd hd u.1 u.2.1 u.2.2.1 u.2.2.2.1 u.2.2.2.2.1 u.2.2.2.2.2 row rl) := by
  refine zEntW (cc := cX3_programImage) (maxL := 4) (ret := none) (own := RX3) (lvs := [(0, .ref g), (1, .ref h), (2, .ref r), (3, .int len)]) (by decide) rfl rfl (Nat.le_of_ble_eq_true rfl) rfl ?_
  intro p0 e s m args below meth c Q ls A hx hb hml hts hown hP hK hN hD hS hA hl hret hretV
  refine lv_aload_n hx hb dX3_programImage_0 rfl (lv_at hl 1 rfl) ?_
  refine lv_aload_n hx hb dX3_programImage_1 rfl (lv_at hl 0 rfl) ?_
  refine va_get (D := D) (ci := 3) (v := .int sd) (C := RX3) (T := TX3) (N := 3) hx hb hts iX3_programImage_X3 hown hK hP 0 rfl rfl 1 (by decide) (hts _ qX3_programImage_1) (fun _ h9 => h9) rfl dX3_programImage_2 ?_
  refine lv_aload_n hx hb dX3_programImage_5 rfl (lv_at hl 2 rfl) ?_
  refine lv_iload_n hx hb dX3_programImage_6 rfl (lv_at hl 3 rfl) ?_
  refine zVW (ws' := fun u => wSR cI g h q r fp sd hd u.1 u.2.1 u.2.2.1 u.2.2.2.1 u.2.2.2.2.1 u.2.2.2.2.2 row rl) (As := [.int sd, .ref r, .int len]) (rest := []) ⟨hx, hb, hml, hown, hts⟩ (k_X0_programRow l D cI h q r f p a st n k row rl sd len (by omega)) (cwV 3 hts gX3_programImage_X0_programRow rfl rfl rfl (by decide +kernel) ⟨Nat.le_of_ble_eq_true rfl, Nat.le_of_ble_eq_true rfl⟩) hP hK hN hD hS hA [1, 2, 3] [0] [(g, .inr (3, [.int (nI fp), .int sd, .int hd]))] rfl (by decide) rfl (fun _ => rfl) (fun _ => rfl) (fun _ => rfl) rfl (va_recv hK hP (ci := 0) (q0 := 1) rfl rfl) rfl hl.1 rfl (Nat.le_of_ble_eq_true rfl) dX3_programImage_7 ⟨Nat.zero_le _, Nat.zero_le _⟩ (fun u_7 H locs hu_7 hP hD hS => ?_)
  obtain ⟨f_7, p_7, a_7, st_7, n_7, k_7⟩ := u_7
  have hP : va_P D vwCl (wSR cI g h q r fp sd hd f_7 p_7 a_7 st_7 n_7 k_7 row rl) _ := hP
  have hD : va_D A (wSR cI g h q r fp sd hd f_7 p_7 a_7 st_7 n_7 k_7 row rl) := hD
  refine W.eq (g2 := F0 m 10 ls []) rfl ?_
  exact hretV 10 ls _ _ (f_7, p_7, a_7, st_7, n_7, k_7) dX3_programImage_10 rfl rfl (by simp only [← hu_7]) hP hS
abbrev rm_X3_programName : Room := { frames := 3, cells := 0, slots := 0, locals := 66 }
set_option maxRecDepth 20000 in
theorem qX3_programName_1 : (Cond.fieldLink RX3 18 "FlashBoot$Slot" "header" "I" : Cond) ∈ wsX3_programName := List.mem_of_getElem? (i := 1) rfl
set_option maxRecDepth 20000 in
theorem iX3_programName_X3 : ∀ w ∈ wsX30, w ∈ wsX3_programName := by decide +kernel
set_option maxHeartbeats 4000000 in
set_option maxRecDepth 100000 in
theorem k_X3_programName (l : Launch) (D : va_G) (cI : ClassId) (g h q : Nat) (fp : Nat) (sd : Int32) (hd : Int32) (f : RW) (p : Int32) (a : Int32) (st : Int32) (n : Int32) (k : Int32) (len : Int32) (seq : Int32) (dig : Int32)  : zMW (S := RW × Int32 × Int32 × Int32 × Int32 × Int32) l D cI yX3_programName wsX3_programName rm_X3_programName [.ref g, .ref h, .int len, .int seq, .int dig] (wS cI g h q fp sd hd f p a st n k) (z_name hd len seq dig (f, p, a, st, n, k)) (fun _ => none) (fun u => wS cI g h q fp sd hd u.1 u.2.1 u.2.2.1 u.2.2.2.1 u.2.2.2.2.1 u.2.2.2.2.2) := by
  refine zEntW (cc := cX3_programName) (maxL := 5) (ret := none) (own := RX3) (lvs := [(0, .ref g), (1, .ref h), (2, .int len), (3, .int seq), (4, .int dig)]) (by decide) rfl rfl (Nat.le_of_ble_eq_true rfl) rfl ?_
  intro p0 e s m args below meth c Q ls A hx hb hml hts hown hP hK hN hD hS hA hl hret hretV
  refine lv_aload_n hx hb dX3_programName_0 rfl (lv_at hl 1 rfl) ?_
  refine lv_aload_n hx hb dX3_programName_1 rfl (lv_at hl 0 rfl) ?_
  refine va_get (D := D) (ci := 3) (v := .int hd) (C := RX3) (T := TX3) (N := 3) hx hb hts iX3_programName_X3 hown hK hP 0 rfl rfl 2 (by decide) (hts _ qX3_programName_1) (fun _ h9 => h9) rfl dX3_programName_2 ?_
  refine lv_iload_n hx hb dX3_programName_5 rfl (lv_at hl 2 rfl) ?_
  refine zVW (ws' := fun u => wS cI g h q fp sd hd u.1 u.2.1 u.2.2.1 u.2.2.2.1 u.2.2.2.2.1 u.2.2.2.2.2) (As := [.int hd, .int len]) (rest := []) ⟨hx, hb, hml, hown, hts⟩ (k_X0_program l D cI h q f p a st n k hd len) (cwV 2 hts gX3_programName_X0_program rfl rfl rfl (by decide +kernel) ⟨Nat.le_of_ble_eq_true rfl, Nat.le_of_ble_eq_true rfl⟩) hP hK hN hD hS hA [1, 2] [0] [(g, .inr (3, [.int (nI fp), .int sd, .int hd]))] rfl (by decide) rfl (fun _ => rfl) (fun _ => rfl) (fun _ => rfl) rfl (va_recv hK hP (ci := 0) (q0 := 1) rfl rfl) rfl hl.1 rfl (Nat.le_of_ble_eq_true rfl) dX3_programName_6 ⟨Nat.zero_le _, Nat.zero_le _⟩ (fun u_6 H locs hu_6 hP hD hS => ?_)
  obtain ⟨f_6, p_6, a_6, st_6, n_6, k_6⟩ := u_6
  have hP : va_P D vwCl (wS cI g h q fp sd hd f_6 p_6 a_6 st_6 n_6 k_6) _ := hP
  have hD : va_D A (wS cI g h q fp sd hd f_6 p_6 a_6 st_6 n_6 k_6) := hD
  refine W.eq (g2 := F0 m 9 ls []) rfl ?_
  refine lv_aload_n hx hb dX3_programName_9 rfl (lv_at hl 1 rfl) ?_
  refine lv_aload_n hx hb dX3_programName_10 rfl (lv_at hl 0 rfl) ?_
  refine va_get (D := D) (ci := 3) (v := .int hd) (C := RX3) (T := TX3) (N := 3) hx hb hts iX3_programName_X3 hown hK hP 0 rfl rfl 2 (by decide) (hts _ qX3_programName_1) (fun _ h9 => h9) rfl dX3_programName_11 ?_
  refine lv_iconst (v := 1) hx hb dX3_programName_14 (by decide) ?_
  refine lv_iadd hx hb dX3_programName_15 ?_
  refine lv_iload_n hx hb dX3_programName_16 rfl (lv_at hl 3 rfl) ?_
  refine zVW (ws' := fun u => wS cI g h q fp sd hd u.1 u.2.1 u.2.2.1 u.2.2.2.1 u.2.2.2.2.1 u.2.2.2.2.2) (As := [.int (hd + 1), .int seq]) (rest := []) ⟨hx, hb, hml, hown, hts⟩ (k_X0_program l D cI h q f_6 p_6 a_6 st_6 n_6 k_6 (hd + 1) seq) (cwV 2 hts gX3_programName_X0_program rfl rfl rfl (by decide +kernel) ⟨Nat.le_of_ble_eq_true rfl, Nat.le_of_ble_eq_true rfl⟩) hP hK hN hD hS hA [1, 2] [0] [(g, .inr (3, [.int (nI fp), .int sd, .int hd]))] rfl (by decide) rfl (fun _ => rfl) (fun _ => rfl) (fun _ => rfl) rfl (va_recv hK hP (ci := 0) (q0 := 1) rfl rfl) rfl hl.1 rfl (Nat.le_of_ble_eq_true rfl) dX3_programName_17 ⟨Nat.zero_le _, Nat.zero_le _⟩ (fun u_17 H locs hu_17 hP hD hS => ?_)
  obtain ⟨f_17, p_17, a_17, st_17, n_17, k_17⟩ := u_17
  have hP : va_P D vwCl (wS cI g h q fp sd hd f_17 p_17 a_17 st_17 n_17 k_17) _ := hP
  have hD : va_D A (wS cI g h q fp sd hd f_17 p_17 a_17 st_17 n_17 k_17) := hD
  refine W.eq (g2 := F0 m 20 ls []) rfl ?_
  refine lv_aload_n hx hb dX3_programName_20 rfl (lv_at hl 1 rfl) ?_
  refine lv_aload_n hx hb dX3_programName_21 rfl (lv_at hl 0 rfl) ?_
  refine va_get (D := D) (ci := 3) (v := .int hd) (C := RX3) (T := TX3) (N := 3) hx hb hts iX3_programName_X3 hown hK hP 0 rfl rfl 2 (by decide) (hts _ qX3_programName_1) (fun _ h9 => h9) rfl dX3_programName_22 ?_
  refine lv_iconst (v := 2) hx hb dX3_programName_25 (by decide) ?_
  refine lv_iadd hx hb dX3_programName_26 ?_
  refine lv_iload hx hb dX3_programName_27 (lv_at hl 4 rfl) ?_
  refine zVW (ws' := fun u => wS cI g h q fp sd hd u.1 u.2.1 u.2.2.1 u.2.2.2.1 u.2.2.2.2.1 u.2.2.2.2.2) (As := [.int (hd + 2), .int dig]) (rest := []) ⟨hx, hb, hml, hown, hts⟩ (k_X0_programWord l D cI h q f_17 p_17 a_17 st_17 n_17 k_17 (hd + 2) dig) (cwV 2 hts gX3_programName_X0_programWord rfl rfl rfl (by decide +kernel) ⟨Nat.le_of_ble_eq_true rfl, Nat.le_of_ble_eq_true rfl⟩) hP hK hN hD hS hA [1, 2] [0] [(g, .inr (3, [.int (nI fp), .int sd, .int hd]))] rfl (by decide) rfl (fun _ => rfl) (fun _ => rfl) (fun _ => rfl) rfl (va_recv hK hP (ci := 0) (q0 := 1) rfl rfl) rfl hl.1 rfl (Nat.le_of_ble_eq_true rfl) dX3_programName_29 ⟨Nat.zero_le _, Nat.zero_le _⟩ (fun u_29 H locs hu_29 hP hD hS => ?_)
  obtain ⟨f_29, p_29, a_29, st_29, n_29, k_29⟩ := u_29
  have hP : va_P D vwCl (wS cI g h q fp sd hd f_29 p_29 a_29 st_29 n_29 k_29) _ := hP
  have hD : va_D A (wS cI g h q fp sd hd f_29 p_29 a_29 st_29 n_29 k_29) := hD
  refine W.eq (g2 := F0 m 32 ls []) rfl ?_
  exact hretV 32 ls _ _ (f_29, p_29, a_29, st_29, n_29, k_29) dX3_programName_32 rfl rfl (by simp only [z_name, ← hu_6, ← hu_17, ← hu_29]) hP hS
abbrev rm_X3_programTrials : Room := { frames := 2, cells := 0, slots := 0, locals := 43 }
set_option maxRecDepth 20000 in
theorem qX3_programTrials_1 : (Cond.fieldLink RX3 18 "FlashBoot$Slot" "header" "I" : Cond) ∈ wsX3_programTrials := List.mem_of_getElem? (i := 1) rfl
set_option maxRecDepth 20000 in
theorem iX3_programTrials_X3 : ∀ w ∈ wsX30, w ∈ wsX3_programTrials := by decide +kernel
set_option maxHeartbeats 4000000 in
set_option maxRecDepth 100000 in
theorem k_X3_programTrials (l : Launch) (D : va_G) (cI : ClassId) (g h q : Nat) (fp : Nat) (sd : Int32) (hd : Int32) (f : RW) (p : Int32) (a : Int32) (st : Int32) (n : Int32) (k : Int32)   : zMW (S := RW × Int32 × Int32 × Int32 × Int32 × Int32) l D cI yX3_programTrials wsX3_programTrials rm_X3_programTrials [.ref g, .ref h] (wS cI g h q fp sd hd f p a st n k) (z_prog (hd + 6) 15 (f, p, a, st, n, k)) (fun _ => none) (fun u => wS cI g h q fp sd hd u.1 u.2.1 u.2.2.1 u.2.2.2.1 u.2.2.2.2.1 u.2.2.2.2.2) := by
  refine zEntW (cc := cX3_programTrials) (maxL := 2) (ret := none) (own := RX3) (lvs := [(0, .ref g), (1, .ref h)]) (by decide) rfl rfl (Nat.le_of_ble_eq_true rfl) rfl ?_
  intro p0 e s m args below meth c Q ls A hx hb hml hts hown hP hK hN hD hS hA hl hret hretV
  refine lv_aload_n hx hb dX3_programTrials_0 rfl (lv_at hl 1 rfl) ?_
  refine lv_aload_n hx hb dX3_programTrials_1 rfl (lv_at hl 0 rfl) ?_
  refine va_get (D := D) (ci := 3) (v := .int hd) (C := RX3) (T := TX3) (N := 3) hx hb hts iX3_programTrials_X3 hown hK hP 0 rfl rfl 2 (by decide) (hts _ qX3_programTrials_1) (fun _ h9 => h9) rfl dX3_programTrials_2 ?_
  refine lv_bipush (v := 6) hx hb dX3_programTrials_5 (by decide) ?_
  refine lv_iadd hx hb dX3_programTrials_7 ?_
  refine lv_bipush (v := 15) hx hb dX3_programTrials_8 (by decide) ?_
  refine zVW (ws' := fun u => wS cI g h q fp sd hd u.1 u.2.1 u.2.2.1 u.2.2.2.1 u.2.2.2.2.1 u.2.2.2.2.2) (As := [.int (hd + 6), .int 15]) (rest := []) ⟨hx, hb, hml, hown, hts⟩ (k_X0_program l D cI h q f p a st n k (hd + 6) 15) (cwV 2 hts gX3_programTrials_X0_program rfl rfl rfl (by decide +kernel) ⟨Nat.le_of_ble_eq_true rfl, Nat.le_of_ble_eq_true rfl⟩) hP hK hN hD hS hA [1, 2] [0] [(g, .inr (3, [.int (nI fp), .int sd, .int hd]))] rfl (by decide) rfl (fun _ => rfl) (fun _ => rfl) (fun _ => rfl) rfl (va_recv hK hP (ci := 0) (q0 := 1) rfl rfl) rfl hl.1 rfl (Nat.le_of_ble_eq_true rfl) dX3_programTrials_10 ⟨Nat.zero_le _, Nat.zero_le _⟩ (fun u_10 H locs hu_10 hP hD hS => ?_)
  obtain ⟨f_10, p_10, a_10, st_10, n_10, k_10⟩ := u_10
  have hP : va_P D vwCl (wS cI g h q fp sd hd f_10 p_10 a_10 st_10 n_10 k_10) _ := hP
  have hD : va_D A (wS cI g h q fp sd hd f_10 p_10 a_10 st_10 n_10 k_10) := hD
  refine W.eq (g2 := F0 m 13 ls []) rfl ?_
  exact hretV 13 ls _ _ (f_10, p_10, a_10, st_10, n_10, k_10) dX3_programTrials_13 rfl rfl (by simp only [← hu_10]) hP hS
abbrev rm_X3_useTrial : Room := { frames := 3, cells := 0, slots := 0, locals := 65 }
set_option maxRecDepth 20000 in
theorem qX3_useTrial_1 : (Cond.fieldLink RX3 18 "FlashBoot$Slot" "header" "I" : Cond) ∈ wsX3_useTrial := List.mem_of_getElem? (i := 1) rfl
set_option maxRecDepth 20000 in
theorem iX3_useTrial_X3 : ∀ w ∈ wsX30, w ∈ wsX3_useTrial := by decide +kernel
set_option maxHeartbeats 4000000 in
set_option maxRecDepth 100000 in
theorem k_X3_useTrial (l : Launch) (D : va_G) (cI : ClassId) (g h q : Nat) (fp : Nat) (sd : Int32) (hd : Int32) (f : RW) (p : Int32) (a : Int32) (st : Int32) (n : Int32) (k : Int32)   : zMW (S := RW × Int32 × Int32 × Int32 × Int32 × Int32) l D cI yX3_useTrial wsX3_useTrial rm_X3_useTrial [.ref g, .ref h] (wS cI g h q fp sd hd f p a st n k) (z_plow (hd + 6) (f, p, a, st, n, k)) (fun _ => none) (fun u => wS cI g h q fp sd hd u.1 u.2.1 u.2.2.1 u.2.2.2.1 u.2.2.2.2.1 u.2.2.2.2.2) := by
  refine zEntW (cc := cX3_useTrial) (maxL := 2) (ret := none) (own := RX3) (lvs := [(0, .ref g), (1, .ref h)]) (by decide) rfl rfl (Nat.le_of_ble_eq_true rfl) rfl ?_
  intro p0 e s m args below meth c Q ls A hx hb hml hts hown hP hK hN hD hS hA hl hret hretV
  refine lv_aload_n hx hb dX3_useTrial_0 rfl (lv_at hl 1 rfl) ?_
  refine lv_aload_n hx hb dX3_useTrial_1 rfl (lv_at hl 0 rfl) ?_
  refine va_get (D := D) (ci := 3) (v := .int hd) (C := RX3) (T := TX3) (N := 3) hx hb hts iX3_useTrial_X3 hown hK hP 0 rfl rfl 2 (by decide) (hts _ qX3_useTrial_1) (fun _ h9 => h9) rfl dX3_useTrial_2 ?_
  refine lv_bipush (v := 6) hx hb dX3_useTrial_5 (by decide) ?_
  refine lv_iadd hx hb dX3_useTrial_7 ?_
  refine zVW (ws' := fun u => wS cI g h q fp sd hd u.1 u.2.1 u.2.2.1 u.2.2.2.1 u.2.2.2.2.1 u.2.2.2.2.2) (As := [.int (hd + 6)]) (rest := []) ⟨hx, hb, hml, hown, hts⟩ (k_X0_programLowestBit l D cI h q f p a st n k (hd + 6)) (cwV 1 hts gX3_useTrial_X0_programLowestBit rfl rfl rfl (by decide +kernel) ⟨Nat.le_of_ble_eq_true rfl, Nat.le_of_ble_eq_true rfl⟩) hP hK hN hD hS hA [1, 2] [0] [(g, .inr (3, [.int (nI fp), .int sd, .int hd]))] rfl (by decide) rfl (fun _ => rfl) (fun _ => rfl) (fun _ => rfl) rfl (va_recv hK hP (ci := 0) (q0 := 1) rfl rfl) rfl hl.1 rfl (Nat.le_of_ble_eq_true rfl) dX3_useTrial_8 ⟨Nat.zero_le _, Nat.zero_le _⟩ (fun u_8 H locs hu_8 hP hD hS => ?_)
  obtain ⟨f_8, p_8, a_8, st_8, n_8, k_8⟩ := u_8
  have hP : va_P D vwCl (wS cI g h q fp sd hd f_8 p_8 a_8 st_8 n_8 k_8) _ := hP
  have hD : va_D A (wS cI g h q fp sd hd f_8 p_8 a_8 st_8 n_8 k_8) := hD
  refine W.eq (g2 := F0 m 11 ls []) rfl ?_
  exact hretV 11 ls _ _ (f_8, p_8, a_8, st_8, n_8, k_8) dX3_useTrial_11 rfl rfl (by simp only [← hu_8]) hP hS
abbrev rm_X3_programConfirmed : Room := { frames := 2, cells := 0, slots := 0, locals := 43 }
set_option maxRecDepth 20000 in
theorem qX3_programConfirmed_1 : (Cond.fieldLink RX3 18 "FlashBoot$Slot" "header" "I" : Cond) ∈ wsX3_programConfirmed := List.mem_of_getElem? (i := 1) rfl
set_option maxRecDepth 20000 in
theorem iX3_programConfirmed_X3 : ∀ w ∈ wsX30, w ∈ wsX3_programConfirmed := by decide +kernel
set_option maxHeartbeats 4000000 in
set_option maxRecDepth 100000 in
theorem k_X3_programConfirmed (l : Launch) (D : va_G) (cI : ClassId) (g h q : Nat) (fp : Nat) (sd : Int32) (hd : Int32) (f : RW) (p : Int32) (a : Int32) (st : Int32) (n : Int32) (k : Int32)   : zMW (S := RW × Int32 × Int32 × Int32 × Int32 × Int32) l D cI yX3_programConfirmed wsX3_programConfirmed rm_X3_programConfirmed [.ref g, .ref h] (wS cI g h q fp sd hd f p a st n k) (z_prog (hd + 7) 0 (f, p, a, st, n, k)) (fun _ => none) (fun u => wS cI g h q fp sd hd u.1 u.2.1 u.2.2.1 u.2.2.2.1 u.2.2.2.2.1 u.2.2.2.2.2) := by
  refine zEntW (cc := cX3_programConfirmed) (maxL := 2) (ret := none) (own := RX3) (lvs := [(0, .ref g), (1, .ref h)]) (by decide) rfl rfl (Nat.le_of_ble_eq_true rfl) rfl ?_
  intro p0 e s m args below meth c Q ls A hx hb hml hts hown hP hK hN hD hS hA hl hret hretV
  refine lv_aload_n hx hb dX3_programConfirmed_0 rfl (lv_at hl 1 rfl) ?_
  refine lv_aload_n hx hb dX3_programConfirmed_1 rfl (lv_at hl 0 rfl) ?_
  refine va_get (D := D) (ci := 3) (v := .int hd) (C := RX3) (T := TX3) (N := 3) hx hb hts iX3_programConfirmed_X3 hown hK hP 0 rfl rfl 2 (by decide) (hts _ qX3_programConfirmed_1) (fun _ h9 => h9) rfl dX3_programConfirmed_2 ?_
  refine lv_bipush (v := 7) hx hb dX3_programConfirmed_5 (by decide) ?_
  refine lv_iadd hx hb dX3_programConfirmed_7 ?_
  refine lv_iconst (v := 0) hx hb dX3_programConfirmed_8 (by decide) ?_
  refine zVW (ws' := fun u => wS cI g h q fp sd hd u.1 u.2.1 u.2.2.1 u.2.2.2.1 u.2.2.2.2.1 u.2.2.2.2.2) (As := [.int (hd + 7), .int 0]) (rest := []) ⟨hx, hb, hml, hown, hts⟩ (k_X0_program l D cI h q f p a st n k (hd + 7) 0) (cwV 2 hts gX3_programConfirmed_X0_program rfl rfl rfl (by decide +kernel) ⟨Nat.le_of_ble_eq_true rfl, Nat.le_of_ble_eq_true rfl⟩) hP hK hN hD hS hA [1, 2] [0] [(g, .inr (3, [.int (nI fp), .int sd, .int hd]))] rfl (by decide) rfl (fun _ => rfl) (fun _ => rfl) (fun _ => rfl) rfl (va_recv hK hP (ci := 0) (q0 := 1) rfl rfl) rfl hl.1 rfl (Nat.le_of_ble_eq_true rfl) dX3_programConfirmed_9 ⟨Nat.zero_le _, Nat.zero_le _⟩ (fun u_9 H locs hu_9 hP hD hS => ?_)
  obtain ⟨f_9, p_9, a_9, st_9, n_9, k_9⟩ := u_9
  have hP : va_P D vwCl (wS cI g h q fp sd hd f_9 p_9 a_9 st_9 n_9 k_9) _ := hP
  have hD : va_D A (wS cI g h q fp sd hd f_9 p_9 a_9 st_9 n_9 k_9) := hD
  refine W.eq (g2 := F0 m 12 ls []) rfl ?_
  exact hretV 12 ls _ _ (f_9, p_9, a_9, st_9, n_9, k_9) dX3_programConfirmed_12 rfl rfl (by simp only [← hu_9]) hP hS
abbrev rm_X3_programWhole : Room := { frames := 2, cells := 0, slots := 0, locals := 43 }
set_option maxRecDepth 20000 in
theorem qX3_programWhole_1 : (Cond.fieldLink RX3 18 "FlashBoot$Slot" "header" "I" : Cond) ∈ wsX3_programWhole := List.mem_of_getElem? (i := 1) rfl
set_option maxRecDepth 20000 in
theorem iX3_programWhole_X3 : ∀ w ∈ wsX30, w ∈ wsX3_programWhole := by decide +kernel
set_option maxHeartbeats 4000000 in
set_option maxRecDepth 100000 in
theorem k_X3_programWhole (l : Launch) (D : va_G) (cI : ClassId) (g h q : Nat) (fp : Nat) (sd : Int32) (hd : Int32) (f : RW) (p : Int32) (a : Int32) (st : Int32) (n : Int32) (k : Int32)   : zMW (S := RW × Int32 × Int32 × Int32 × Int32 × Int32) l D cI yX3_programWhole wsX3_programWhole rm_X3_programWhole [.ref g, .ref h] (wS cI g h q fp sd hd f p a st n k) (z_prog (hd + 8) 0 (f, p, a, st, n, k)) (fun _ => none) (fun u => wS cI g h q fp sd hd u.1 u.2.1 u.2.2.1 u.2.2.2.1 u.2.2.2.2.1 u.2.2.2.2.2) := by
  refine zEntW (cc := cX3_programWhole) (maxL := 2) (ret := none) (own := RX3) (lvs := [(0, .ref g), (1, .ref h)]) (by decide) rfl rfl (Nat.le_of_ble_eq_true rfl) rfl ?_
  intro p0 e s m args below meth c Q ls A hx hb hml hts hown hP hK hN hD hS hA hl hret hretV
  refine lv_aload_n hx hb dX3_programWhole_0 rfl (lv_at hl 1 rfl) ?_
  refine lv_aload_n hx hb dX3_programWhole_1 rfl (lv_at hl 0 rfl) ?_
  refine va_get (D := D) (ci := 3) (v := .int hd) (C := RX3) (T := TX3) (N := 3) hx hb hts iX3_programWhole_X3 hown hK hP 0 rfl rfl 2 (by decide) (hts _ qX3_programWhole_1) (fun _ h9 => h9) rfl dX3_programWhole_2 ?_
  refine lv_bipush (v := 8) hx hb dX3_programWhole_5 (by decide) ?_
  refine lv_iadd hx hb dX3_programWhole_7 ?_
  refine lv_iconst (v := 0) hx hb dX3_programWhole_8 (by decide) ?_
  refine zVW (ws' := fun u => wS cI g h q fp sd hd u.1 u.2.1 u.2.2.1 u.2.2.2.1 u.2.2.2.2.1 u.2.2.2.2.2) (As := [.int (hd + 8), .int 0]) (rest := []) ⟨hx, hb, hml, hown, hts⟩ (k_X0_program l D cI h q f p a st n k (hd + 8) 0) (cwV 2 hts gX3_programWhole_X0_program rfl rfl rfl (by decide +kernel) ⟨Nat.le_of_ble_eq_true rfl, Nat.le_of_ble_eq_true rfl⟩) hP hK hN hD hS hA [1, 2] [0] [(g, .inr (3, [.int (nI fp), .int sd, .int hd]))] rfl (by decide) rfl (fun _ => rfl) (fun _ => rfl) (fun _ => rfl) rfl (va_recv hK hP (ci := 0) (q0 := 1) rfl rfl) rfl hl.1 rfl (Nat.le_of_ble_eq_true rfl) dX3_programWhole_9 ⟨Nat.zero_le _, Nat.zero_le _⟩ (fun u_9 H locs hu_9 hP hD hS => ?_)
  obtain ⟨f_9, p_9, a_9, st_9, n_9, k_9⟩ := u_9
  have hP : va_P D vwCl (wS cI g h q fp sd hd f_9 p_9 a_9 st_9 n_9 k_9) _ := hP
  have hD : va_D A (wS cI g h q fp sd hd f_9 p_9 a_9 st_9 n_9 k_9) := hD
  refine W.eq (g2 := F0 m 12 ls []) rfl ?_
  exact hretV 12 ls _ _ (f_9, p_9, a_9, st_9, n_9, k_9) dX3_programWhole_12 rfl rfl (by simp only [← hu_9]) hP hS
abbrev rm_X1_vendor : Room := { frames := 0, cells := 0, slots := 0, locals := 0 }
set_option maxRecDepth 20000 in
theorem qX1_vendor_1 : (Cond.fieldLink RX1 11 "FlashBoot$Manifest" "bytes" "[I" : Cond) ∈ wsX1_vendor := List.mem_of_getElem? (i := 1) rfl
set_option maxRecDepth 20000 in
theorem iX1_vendor_X1 : ∀ w ∈ wsX10, w ∈ wsX1_vendor := by decide +kernel
set_option maxHeartbeats 4000000 in
set_option maxRecDepth 100000 in
theorem k_X1_vendor (l : Launch) (D : va_G) (cI : ClassId) (h q : Nat) (ob : RW)   : zMR l D cI yX1_vendor wsX1_vendor rm_X1_vendor [.ref h] (wM cI h q ob) (.int (ob 0)) := by
  refine zEntR (cc := cX1_vendor) (maxL := 1) (ret := (some .int)) (own := RX1) (lvs := [(0, .ref h)]) (by decide) rfl rfl rfl rfl (Nat.le_of_ble_eq_true rfl) rfl ?_
  intro p0 e s m args below meth c Q ls hx hb hml hts hown hP hK hN hl hret hretA
  refine lv_aload_n hx hb dX1_vendor_0 rfl (lv_at hl 0 rfl) ?_
  refine va_get (D := D) (ci := 1) (v := .ref q) (C := RX1) (T := TX1) (N := 1) hx hb hts iX1_vendor_X1 hown hK hP 0 rfl rfl 0 (by decide) (hts _ qX1_vendor_1) (fun _ h9 => h9) rfl dX1_vendor_1 ?_
  refine lv_iconst (v := 0) hx hb dX1_vendor_4 (by decide) ?_
  refine z_iald hx hb hK hP 1 0 rfl rfl 0 rfl (by omega) (by decide) dX1_vendor_5 ?_
  exact hret 6 ls (ob 0) _ dX1_vendor_6 rfl rfl (congrArg Value.int (by rfl))
abbrev rm_X1_sequence : Room := { frames := 0, cells := 0, slots := 0, locals := 0 }
set_option maxRecDepth 20000 in
theorem qX1_sequence_1 : (Cond.fieldLink RX1 11 "FlashBoot$Manifest" "bytes" "[I" : Cond) ∈ wsX1_sequence := List.mem_of_getElem? (i := 1) rfl
set_option maxRecDepth 20000 in
theorem iX1_sequence_X1 : ∀ w ∈ wsX10, w ∈ wsX1_sequence := by decide +kernel
set_option maxHeartbeats 4000000 in
set_option maxRecDepth 100000 in
theorem k_X1_sequence (l : Launch) (D : va_G) (cI : ClassId) (h q : Nat) (ob : RW)   : zMR l D cI yX1_sequence wsX1_sequence rm_X1_sequence [.ref h] (wM cI h q ob) (.int (ob 1)) := by
  refine zEntR (cc := cX1_sequence) (maxL := 1) (ret := (some .int)) (own := RX1) (lvs := [(0, .ref h)]) (by decide) rfl rfl rfl rfl (Nat.le_of_ble_eq_true rfl) rfl ?_
  intro p0 e s m args below meth c Q ls hx hb hml hts hown hP hK hN hl hret hretA
  refine lv_aload_n hx hb dX1_sequence_0 rfl (lv_at hl 0 rfl) ?_
  refine va_get (D := D) (ci := 1) (v := .ref q) (C := RX1) (T := TX1) (N := 1) hx hb hts iX1_sequence_X1 hown hK hP 0 rfl rfl 0 (by decide) (hts _ qX1_sequence_1) (fun _ h9 => h9) rfl dX1_sequence_1 ?_
  refine lv_iconst (v := 1) hx hb dX1_sequence_4 (by decide) ?_
  refine z_iald hx hb hK hP 1 0 rfl rfl 1 rfl (by omega) (by decide) dX1_sequence_5 ?_
  exact hret 6 ls (ob 1) _ dX1_sequence_6 rfl rfl (congrArg Value.int (by rfl))
abbrev rm_X1_payloadLength : Room := { frames := 0, cells := 0, slots := 0, locals := 0 }
set_option maxRecDepth 20000 in
theorem qX1_payloadLength_1 : (Cond.fieldLink RX1 11 "FlashBoot$Manifest" "bytes" "[I" : Cond) ∈ wsX1_payloadLength := List.mem_of_getElem? (i := 1) rfl
set_option maxRecDepth 20000 in
theorem iX1_payloadLength_X1 : ∀ w ∈ wsX10, w ∈ wsX1_payloadLength := by decide +kernel
set_option maxHeartbeats 4000000 in
set_option maxRecDepth 100000 in
theorem k_X1_payloadLength (l : Launch) (D : va_G) (cI : ClassId) (h q : Nat) (ob : RW)   : zMR l D cI yX1_payloadLength wsX1_payloadLength rm_X1_payloadLength [.ref h] (wM cI h q ob) (.int (ob 6)) := by
  refine zEntR (cc := cX1_payloadLength) (maxL := 1) (ret := (some .int)) (own := RX1) (lvs := [(0, .ref h)]) (by decide) rfl rfl rfl rfl (Nat.le_of_ble_eq_true rfl) rfl ?_
  intro p0 e s m args below meth c Q ls hx hb hml hts hown hP hK hN hl hret hretA
  refine lv_aload_n hx hb dX1_payloadLength_0 rfl (lv_at hl 0 rfl) ?_
  refine va_get (D := D) (ci := 1) (v := .ref q) (C := RX1) (T := TX1) (N := 1) hx hb hts iX1_payloadLength_X1 hown hK hP 0 rfl rfl 0 (by decide) (hts _ qX1_payloadLength_1) (fun _ h9 => h9) rfl dX1_payloadLength_1 ?_
  refine lv_bipush (v := 6) hx hb dX1_payloadLength_4 (by decide) ?_
  refine z_iald hx hb hK hP 1 0 rfl rfl 6 rfl (by omega) (by decide) dX1_payloadLength_6 ?_
  exact hret 7 ls (ob 6) _ dX1_payloadLength_7 rfl rfl (congrArg Value.int (by rfl))
abbrev rm_X1_imageLength : Room := { frames := 0, cells := 0, slots := 0, locals := 0 }
set_option maxRecDepth 20000 in
theorem qX1_imageLength_1 : (Cond.fieldLink RX1 11 "FlashBoot$Manifest" "bytes" "[I" : Cond) ∈ wsX1_imageLength := List.mem_of_getElem? (i := 1) rfl
set_option maxRecDepth 20000 in
theorem iX1_imageLength_X1 : ∀ w ∈ wsX10, w ∈ wsX1_imageLength := by decide +kernel
set_option maxHeartbeats 4000000 in
set_option maxRecDepth 100000 in
theorem k_X1_imageLength (l : Launch) (D : va_G) (cI : ClassId) (h q : Nat) (ob : RW)   : zMR l D cI yX1_imageLength wsX1_imageLength rm_X1_imageLength [.ref h] (wM cI h q ob) (.int (ob 11)) := by
  refine zEntR (cc := cX1_imageLength) (maxL := 1) (ret := (some .int)) (own := RX1) (lvs := [(0, .ref h)]) (by decide) rfl rfl rfl rfl (Nat.le_of_ble_eq_true rfl) rfl ?_
  intro p0 e s m args below meth c Q ls hx hb hml hts hown hP hK hN hl hret hretA
  refine lv_aload_n hx hb dX1_imageLength_0 rfl (lv_at hl 0 rfl) ?_
  refine va_get (D := D) (ci := 1) (v := .ref q) (C := RX1) (T := TX1) (N := 1) hx hb hts iX1_imageLength_X1 hown hK hP 0 rfl rfl 0 (by decide) (hts _ qX1_imageLength_1) (fun _ h9 => h9) rfl dX1_imageLength_1 ?_
  refine lv_bipush (v := 11) hx hb dX1_imageLength_4 (by decide) ?_
  refine z_iald hx hb hK hP 1 0 rfl rfl 11 rfl (by omega) (by decide) dX1_imageLength_6 ?_
  exact hret 7 ls (ob 11) _ dX1_imageLength_7 rfl rfl (congrArg Value.int (by rfl))
abbrev rm_X1_word : Room := { frames := 0, cells := 0, slots := 0, locals := 0 }
set_option maxRecDepth 20000 in
theorem qX1_word_1 : (Cond.fieldLink RX1 11 "FlashBoot$Manifest" "bytes" "[I" : Cond) ∈ wsX1_word := List.mem_of_getElem? (i := 1) rfl
set_option maxRecDepth 20000 in
theorem iX1_word_X1 : ∀ w ∈ wsX10, w ∈ wsX1_word := by decide +kernel
set_option maxHeartbeats 4000000 in
set_option maxRecDepth 100000 in
theorem k_X1_word (l : Launch) (D : va_G) (cI : ClassId) (h q : Nat) (ob : RW) (b : Nat) (hb16 : b ≤ 16) : zMR l D cI yX1_word wsX1_word rm_X1_word [.ref h, .int (nI b)] (wM cI h q ob) (.int (z_mword ob b)) := by
  refine zEntR (cc := cX1_word) (maxL := 4) (ret := (some .int)) (own := RX1) (lvs := [(0, .ref h), (1, .int (nI b))]) (by decide) rfl rfl rfl rfl (Nat.le_of_ble_eq_true rfl) rfl ?_
  intro p0 e s m args below meth c Q ls hx hb hml hts hown hP hK hN hl hret hretA
  refine lv_iconst (v := 0) hx hb dX1_word_0 (by decide) ?_
  refine lv_istore_n (lv' := [(2, .int 0), (0, .ref h), (1, .int (nI b))]) hx hb dX1_word_1 rfl hl (by decide) rfl (fun ls hl => ?_)
  refine lv_iload_n hx hb dX1_word_2 rfl (lv_at hl 2 rfl) ?_
  refine lv_istore_n (lv' := [(3, .int (nI b)), (2, .int 0), (0, .ref h), (1, .int (nI b))]) hx hb dX1_word_3 rfl hl (by decide) rfl (fun ls hl => ?_)
  have lp_4 : ∀ (g_4 : Nat) (i : Nat) (ls : Array Slot), i ≤ 4 → 4 - i < g_4 → lv_has ls 4 [(0, .ref h), (1, .int (nI b)), (2, .int (z_mwordN ob b i)), (3, .int (nI (b + i)))] → W p0 l e rm_X1_word s m args below meth c s.heap [] 0 0 Q (F0 m 4 ls []) := by
    intro g_4
    induction g_4 with
    | zero => intro i ls h1 h9_4; exact absurd h9_4 (Nat.not_lt_zero _)
    | succ g_4 ih_4 =>
      intro i ls h1 h9_4 hl
      refine lv_iload_n hx hb dX1_word_4 rfl (lv_at hl 3 rfl) ?_
      refine lv_iload_n hx hb dX1_word_5 rfl (lv_at hl 1 rfl) ?_
      refine lv_iconst (v := 4) hx hb dX1_word_6 (by decide) ?_
      refine lv_iadd hx hb dX1_word_7 ?_
      refine z_top (v := nI (b + 4)) (nI_add b 4) ?_
      refine z_icmp_ge (tgt := 35) hx hb dX1_word_8 (by decide) (b + i) (b + 4) rfl rfl (by omega) (by omega) (fun c_8 => ?_) (fun c_8 => ?_)
      · -- 8 t
        refine lv_iload_n hx hb dX1_word_35 rfl (lv_at hl 2 rfl) ?_
        exact hret 36 ls (z_mwordN ob b i) _ dX1_word_36 rfl rfl (congrArg Value.int (by rw [z_mword, show 4 = i by omega]))
      · -- 8 f
        refine lv_iload_n hx hb dX1_word_11 rfl (lv_at hl 3 rfl) ?_
        refine lv_bipush (v := 20) hx hb dX1_word_12 (by decide) ?_
        refine z_icmp_ge (tgt := 35) hx hb dX1_word_14 (by decide) (b + i) 20 rfl rfl (by omega) (by omega) (fun c_14 => ?_) (fun c_14 => ?_)
        · -- 14 t
          exact absurd c_14 (by omega)
        · -- 14 f
          refine lv_iload_n hx hb dX1_word_17 rfl (lv_at hl 2 rfl) ?_
          refine lv_bipush (v := 8) hx hb dX1_word_18 (by decide) ?_
          refine lv_ishl hx hb dX1_word_20 ?_
          refine lv_aload_n hx hb dX1_word_21 rfl (lv_at hl 0 rfl) ?_
          refine va_get (D := D) (ci := 1) (v := .ref q) (C := RX1) (T := TX1) (N := 1) hx hb hts iX1_word_X1 hown hK hP 0 rfl rfl 0 (by decide) (hts _ qX1_word_1) (fun _ h9 => h9) rfl dX1_word_22 ?_
          refine lv_iload_n hx hb dX1_word_25 rfl (lv_at hl 3 rfl) ?_
          refine z_iald hx hb hK hP 1 0 rfl rfl (b + i) rfl (by omega) (by decide) dX1_word_26 ?_
          refine lv_ior hx hb dX1_word_27 ?_
          refine lv_istore_n (lv' := [(2, .int (((z_mwordN ob b i) <<< (8 &&& 31)) ||| (ob (b + i)))), (0, .ref h), (1, .int (nI b)), (3, .int (nI (b + i)))]) hx hb dX1_word_28 rfl hl (by decide) rfl (fun ls hl => ?_)
          refine lv_iinc (v := (nI ((b + i) + 1))) (lv' := [(3, .int (nI ((b + i) + 1))), (2, .int (((z_mwordN ob b i) <<< (8 &&& 31)) ||| (ob (b + i)))), (0, .ref h), (1, .int (nI b))]) hx hb dX1_word_29 hl (k := 3) rfl (z_inc _ _ rfl) (by decide) rfl (fun ls hl => ?_)
          refine lv_goto (tgt := 4) hx hb dX1_word_32 (by decide) ?_
          exact ih_4 (i + 1) _ (by omega) (by omega) (lv_sub hl [2, 3, 1, 0] rfl)
  exact lp_4 _ 0 _ (by omega) (Nat.lt_succ_self _) (lv_sub hl [2, 3, 1, 0] rfl)
abbrev rm_X1_baseDigest : Room := { frames := 1, cells := 0, slots := 0, locals := 23 }
set_option maxHeartbeats 4000000 in
set_option maxRecDepth 100000 in
theorem k_X1_baseDigest (l : Launch) (D : va_G) (cI : ClassId) (h q : Nat) (ob : RW)   : zMR l D cI yX1_baseDigest wsX1_baseDigest rm_X1_baseDigest [.ref h] (wM cI h q ob) (.int (z_mword ob 2)) := by
  refine zEntR (cc := cX1_baseDigest) (maxL := 1) (ret := (some .int)) (own := RX1) (lvs := [(0, .ref h)]) (by decide) rfl rfl rfl rfl (Nat.le_of_ble_eq_true rfl) rfl ?_
  intro p0 e s m args below meth c Q ls hx hb hml hts hown hP hK hN hl hret hretA
  refine lv_aload_n hx hb dX1_baseDigest_0 rfl (lv_at hl 0 rfl) ?_
  refine lv_iconst (v := 2) hx hb dX1_baseDigest_1 (by decide) ?_
  refine zVR (As := [.int 2]) (rest := []) ⟨hx, hb, hml, hown, hts⟩ (k_X1_word l D cI h q ob 2 (by omega)) (cwV 1 hts gX1_baseDigest_X1_word rfl rfl rfl (by decide +kernel) ⟨Nat.le_of_ble_eq_true rfl, Nat.le_of_ble_eq_true rfl⟩) hP hK hN [0, 1] rfl (va_recv hK hP (ci := 1) (q0 := 0) rfl rfl) rfl hl.1 rfl (Nat.le_of_ble_eq_true rfl) dX1_baseDigest_2 ⟨Nat.zero_le _, Nat.zero_le _⟩ ?_
  exact hret 5 ls (z_mword ob 2) _ dX1_baseDigest_5 rfl rfl (congrArg Value.int (by rfl))
abbrev rm_X1_payloadDigest : Room := { frames := 1, cells := 0, slots := 0, locals := 23 }
set_option maxHeartbeats 4000000 in
set_option maxRecDepth 100000 in
theorem k_X1_payloadDigest (l : Launch) (D : va_G) (cI : ClassId) (h q : Nat) (ob : RW)   : zMR l D cI yX1_payloadDigest wsX1_payloadDigest rm_X1_payloadDigest [.ref h] (wM cI h q ob) (.int (z_mword ob 7)) := by
  refine zEntR (cc := cX1_payloadDigest) (maxL := 1) (ret := (some .int)) (own := RX1) (lvs := [(0, .ref h)]) (by decide) rfl rfl rfl rfl (Nat.le_of_ble_eq_true rfl) rfl ?_
  intro p0 e s m args below meth c Q ls hx hb hml hts hown hP hK hN hl hret hretA
  refine lv_aload_n hx hb dX1_payloadDigest_0 rfl (lv_at hl 0 rfl) ?_
  refine lv_bipush (v := 7) hx hb dX1_payloadDigest_1 (by decide) ?_
  refine zVR (As := [.int 7]) (rest := []) ⟨hx, hb, hml, hown, hts⟩ (k_X1_word l D cI h q ob 7 (by omega)) (cwV 1 hts gX1_payloadDigest_X1_word rfl rfl rfl (by decide +kernel) ⟨Nat.le_of_ble_eq_true rfl, Nat.le_of_ble_eq_true rfl⟩) hP hK hN [0, 1] rfl (va_recv hK hP (ci := 1) (q0 := 0) rfl rfl) rfl hl.1 rfl (Nat.le_of_ble_eq_true rfl) dX1_payloadDigest_3 ⟨Nat.zero_le _, Nat.zero_le _⟩ ?_
  exact hret 6 ls (z_mword ob 7) _ dX1_payloadDigest_6 rfl rfl (congrArg Value.int (by rfl))
abbrev rm_X1_imageDigest : Room := { frames := 1, cells := 0, slots := 0, locals := 23 }
set_option maxHeartbeats 4000000 in
set_option maxRecDepth 100000 in
theorem k_X1_imageDigest (l : Launch) (D : va_G) (cI : ClassId) (h q : Nat) (ob : RW)   : zMR l D cI yX1_imageDigest wsX1_imageDigest rm_X1_imageDigest [.ref h] (wM cI h q ob) (.int (z_mword ob 12)) := by
  refine zEntR (cc := cX1_imageDigest) (maxL := 1) (ret := (some .int)) (own := RX1) (lvs := [(0, .ref h)]) (by decide) rfl rfl rfl rfl (Nat.le_of_ble_eq_true rfl) rfl ?_
  intro p0 e s m args below meth c Q ls hx hb hml hts hown hP hK hN hl hret hretA
  refine lv_aload_n hx hb dX1_imageDigest_0 rfl (lv_at hl 0 rfl) ?_
  refine lv_bipush (v := 12) hx hb dX1_imageDigest_1 (by decide) ?_
  refine zVR (As := [.int 12]) (rest := []) ⟨hx, hb, hml, hown, hts⟩ (k_X1_word l D cI h q ob 12 (by omega)) (cwV 1 hts gX1_imageDigest_X1_word rfl rfl rfl (by decide +kernel) ⟨Nat.le_of_ble_eq_true rfl, Nat.le_of_ble_eq_true rfl⟩) hP hK hN [0, 1] rfl (va_recv hK hP (ci := 1) (q0 := 0) rfl rfl) rfl hl.1 rfl (Nat.le_of_ble_eq_true rfl) dX1_imageDigest_3 ⟨Nat.zero_le _, Nat.zero_le _⟩ ?_
  exact hret 6 ls (z_mword ob 12) _ dX1_imageDigest_6 rfl rfl (congrArg Value.int (by rfl))
abbrev rm_X1_isInRange : Room := { frames := 1, cells := 0, slots := 0, locals := 20 }
set_option maxRecDepth 20000 in
theorem qX1_isInRange_8 : (Cond.initialized RX5 : Cond) ∈ wsX1_isInRange := List.mem_of_getElem? (i := 8) rfl
set_option maxRecDepth 20000 in
theorem qX1_isInRange_7 : (Cond.static yX5_isSequence : Cond) ∈ wsX1_isInRange := List.mem_of_getElem? (i := 7) rfl
set_option maxRecDepth 20000 in
theorem qX1_isInRange_14 : (Cond.static yX5_isLength : Cond) ∈ wsX1_isInRange := List.mem_of_getElem? (i := 14) rfl
set_option maxHeartbeats 4000000 in
set_option maxRecDepth 100000 in
theorem k_X1_isInRange (l : Launch) (D : va_G) (cI : ClassId) (h q : Nat) (ob : RW)   : zMR l D cI yX1_isInRange wsX1_isInRange rm_X1_isInRange [.ref h] (wM cI h q ob) (.int (z_mRange ob)) := by
  refine zEntR (cc := cX1_isInRange) (maxL := 1) (ret := (some .boolean)) (own := RX1) (lvs := [(0, .ref h)]) (by decide) rfl rfl rfl rfl (Nat.le_of_ble_eq_true rfl) rfl ?_
  intro p0 e s m args below meth c Q ls hx hb hml hts hown hP hK hN hl hret hretA
  refine lv_aload_n hx hb dX1_isInRange_0 rfl (lv_at hl 0 rfl) ?_
  refine zVR (As := []) (rest := []) ⟨hx, hb, hml, hown, hts⟩ (k_X1_sequence l D cI h q ob) (cwV 0 hts gX1_isInRange_X1_sequence rfl rfl rfl (by decide +kernel) ⟨Nat.le_of_ble_eq_true rfl, Nat.le_of_ble_eq_true rfl⟩) hP hK hN [0, 1] rfl (va_recv hK hP (ci := 1) (q0 := 0) rfl rfl) rfl hl.1 rfl (Nat.le_of_ble_eq_true rfl) dX1_isInRange_1 ⟨Nat.zero_le _, Nat.zero_le _⟩ ?_
  refine zNR (As := [.int (ob 1)]) (rest := []) ⟨hx, hb, hml, hown, hts⟩ (k_X5_isSequence l D cI (ob 1)) ⟨va_cnB 1 hts gX1_isInRange_X5_isSequence_n37 rfl rfl rfl (zN_at hN 13 rfl) (hts _ qX1_isInRange_8) (by decide +kernel) ⟨Nat.le_of_ble_eq_true rfl, Nat.le_of_ble_eq_true rfl⟩, hts _ qX1_isInRange_7, trivial⟩ hP hK hN [] rfl rfl hl.1 rfl (Nat.le_of_ble_eq_true rfl) dX1_isInRange_4 ⟨Nat.zero_le _, Nat.zero_le _⟩ ?_
  refine lv_if_eq (tgt := 34) hx hb dX1_isInRange_7 (by decide) (fun c_7 => ?_) (fun c_7 => ?_)
  · -- 7 t
    refine lv_iconst (v := 0) hx hb dX1_isInRange_34 (by decide) ?_
    exact hret 35 ls 0 _ dX1_isInRange_35 rfl rfl (congrArg Value.int (by simp only [z_mRange, if_pos c_7]))
  · -- 7 f
    refine lv_aload_n hx hb dX1_isInRange_10 rfl (lv_at hl 0 rfl) ?_
    refine zVR (As := []) (rest := []) ⟨hx, hb, hml, hown, hts⟩ (k_X1_payloadLength l D cI h q ob) (cwV 0 hts gX1_isInRange_X1_payloadLength rfl rfl rfl (by decide +kernel) ⟨Nat.le_of_ble_eq_true rfl, Nat.le_of_ble_eq_true rfl⟩) hP hK hN [0, 1] rfl (va_recv hK hP (ci := 1) (q0 := 0) rfl rfl) rfl hl.1 rfl (Nat.le_of_ble_eq_true rfl) dX1_isInRange_11 ⟨Nat.zero_le _, Nat.zero_le _⟩ ?_
    refine zNR (As := [.int (ob 6)]) (rest := []) ⟨hx, hb, hml, hown, hts⟩ (k_X5_isLength l D cI (ob 6)) ⟨va_cnB 1 hts gX1_isInRange_X5_isLength_n44 rfl rfl rfl (zN_at hN 14 rfl) (hts _ qX1_isInRange_8) (by decide +kernel) ⟨Nat.le_of_ble_eq_true rfl, Nat.le_of_ble_eq_true rfl⟩, hts _ qX1_isInRange_14, trivial⟩ hP hK hN [] rfl rfl hl.1 rfl (Nat.le_of_ble_eq_true rfl) dX1_isInRange_14 ⟨Nat.zero_le _, Nat.zero_le _⟩ ?_
    refine lv_if_eq (tgt := 34) hx hb dX1_isInRange_17 (by decide) (fun c_17 => ?_) (fun c_17 => ?_)
    · -- 17 t
      refine lv_iconst (v := 0) hx hb dX1_isInRange_34 (by decide) ?_
      exact hret 35 ls 0 _ dX1_isInRange_35 rfl rfl (congrArg Value.int (by simp only [z_mRange, if_neg c_7, if_pos c_17]))
    · -- 17 f
      refine lv_aload_n hx hb dX1_isInRange_20 rfl (lv_at hl 0 rfl) ?_
      refine zVR (As := []) (rest := []) ⟨hx, hb, hml, hown, hts⟩ (k_X1_imageLength l D cI h q ob) (cwV 0 hts gX1_isInRange_X1_imageLength rfl rfl rfl (by decide +kernel) ⟨Nat.le_of_ble_eq_true rfl, Nat.le_of_ble_eq_true rfl⟩) hP hK hN [0, 1] rfl (va_recv hK hP (ci := 1) (q0 := 0) rfl rfl) rfl hl.1 rfl (Nat.le_of_ble_eq_true rfl) dX1_isInRange_21 ⟨Nat.zero_le _, Nat.zero_le _⟩ ?_
      refine zNR (As := [.int (ob 11)]) (rest := []) ⟨hx, hb, hml, hown, hts⟩ (k_X5_isLength l D cI (ob 11)) ⟨va_cnB 1 hts gX1_isInRange_X5_isLength_n44 rfl rfl rfl (zN_at hN 14 rfl) (hts _ qX1_isInRange_8) (by decide +kernel) ⟨Nat.le_of_ble_eq_true rfl, Nat.le_of_ble_eq_true rfl⟩, hts _ qX1_isInRange_14, trivial⟩ hP hK hN [] rfl rfl hl.1 rfl (Nat.le_of_ble_eq_true rfl) dX1_isInRange_24 ⟨Nat.zero_le _, Nat.zero_le _⟩ ?_
      refine lv_if_eq (tgt := 34) hx hb dX1_isInRange_27 (by decide) (fun c_27 => ?_) (fun c_27 => ?_)
      · -- 27 t
        refine lv_iconst (v := 0) hx hb dX1_isInRange_34 (by decide) ?_
        exact hret 35 ls 0 _ dX1_isInRange_35 rfl rfl (congrArg Value.int (by simp only [z_mRange, if_neg c_7, if_neg c_17, if_pos c_27]))
      · -- 27 f
        refine lv_iconst (v := 1) hx hb dX1_isInRange_30 (by decide) ?_
        refine lv_goto (tgt := 35) hx hb dX1_isInRange_31 (by decide) ?_
        exact hret 35 ls 1 _ dX1_isInRange_35 rfl rfl (congrArg Value.int (by simp only [z_mRange, if_neg c_7, if_neg c_17, if_neg c_27]))
abbrev rm_X1_isTagged : Room := { frames := 2, cells := 0, slots := 0, locals := 46 }
set_option maxRecDepth 20000 in
theorem qX1_isTagged_3 : (Cond.initialized RX5 : Cond) ∈ wsX1_isTagged := List.mem_of_getElem? (i := 3) rfl
set_option maxRecDepth 20000 in
theorem qX1_isTagged_2 : (Cond.static yX5_digest : Cond) ∈ wsX1_isTagged := List.mem_of_getElem? (i := 2) rfl
set_option maxRecDepth 20000 in
theorem qX1_isTagged_1 : (Cond.fieldLink RX1 11 "FlashBoot$Manifest" "bytes" "[I" : Cond) ∈ wsX1_isTagged := List.mem_of_getElem? (i := 1) rfl
set_option maxRecDepth 20000 in
theorem iX1_isTagged_X1 : ∀ w ∈ wsX10, w ∈ wsX1_isTagged := by decide +kernel
set_option maxHeartbeats 4000000 in
set_option maxRecDepth 100000 in
theorem k_X1_isTagged (l : Launch) (D : va_G) (cI : ClassId) (h q x : Nat) (ob : RW) (K : RW)   : zMR l D cI yX1_isTagged wsX1_isTagged rm_X1_isTagged [.ref h, .ref x] (wMK cI h q x ob K) (.int (z_mTag ob K)) := by
  refine zEntR (cc := cX1_isTagged) (maxL := 2) (ret := (some .boolean)) (own := RX1) (lvs := [(0, .ref h), (1, .ref x)]) (by decide) rfl rfl rfl rfl (Nat.le_of_ble_eq_true rfl) rfl ?_
  intro p0 e s m args below meth c Q ls hx hb hml hts hown hP hK hN hl hret hretA
  refine lv_iconst (v := 0) hx hb dX1_isTagged_0 (by decide) ?_
  refine lv_aload_n hx hb dX1_isTagged_1 rfl (lv_at hl 1 rfl) ?_
  refine lv_aload_n hx hb dX1_isTagged_2 rfl (lv_at hl 1 rfl) ?_
  refine va_alen (v := 8) hx hb hK hP 2 0 rfl (ty := .int) rfl rfl dX1_isTagged_3 ?_
  refine zNR (As := [.int 0, .ref x, .int 8]) (rest := []) ⟨hx, hb, hml, hown, hts⟩ (k_X5_digest l D cI x K 8 0 8 (by omega)) ⟨va_cnB 3 hts gX1_isTagged_X5_digest_n50 rfl rfl rfl (zN_at hN 15 rfl) (hts _ qX1_isTagged_3) (by decide +kernel) ⟨Nat.le_of_ble_eq_true rfl, Nat.le_of_ble_eq_true rfl⟩, hts _ qX1_isTagged_2, trivial⟩ hP hK hN [2] rfl rfl hl.1 rfl (Nat.le_of_ble_eq_true rfl) dX1_isTagged_4 ⟨Nat.zero_le _, Nat.zero_le _⟩ ?_
  refine lv_aload_n hx hb dX1_isTagged_7 rfl (lv_at hl 0 rfl) ?_
  refine va_get (D := D) (ci := 1) (v := .ref q) (C := RX1) (T := TX1) (N := 1) hx hb hts iX1_isTagged_X1 hown hK hP 0 rfl rfl 0 (by decide) (hts _ qX1_isTagged_1) (fun _ h9 => h9) rfl dX1_isTagged_8 ?_
  refine lv_bipush (v := 16) hx hb dX1_isTagged_11 (by decide) ?_
  refine zNR (As := [.int (z_dig 0 K 8 8), .ref q, .int 16]) (rest := []) ⟨hx, hb, hml, hown, hts⟩ (k_X5_digest l D cI q ob 20 (z_dig 0 K 8 8) 16 (by omega)) ⟨va_cnB 3 hts gX1_isTagged_X5_digest_n50 rfl rfl rfl (zN_at hN 15 rfl) (hts _ qX1_isTagged_3) (by decide +kernel) ⟨Nat.le_of_ble_eq_true rfl, Nat.le_of_ble_eq_true rfl⟩, hts _ qX1_isTagged_2, trivial⟩ hP hK hN [1] rfl rfl hl.1 rfl (Nat.le_of_ble_eq_true rfl) dX1_isTagged_13 ⟨Nat.zero_le _, Nat.zero_le _⟩ ?_
  refine lv_aload_n hx hb dX1_isTagged_16 rfl (lv_at hl 0 rfl) ?_
  refine lv_bipush (v := 16) hx hb dX1_isTagged_17 (by decide) ?_
  refine zVR (As := [.int 16]) (rest := [.int (z_dig (z_dig 0 K 8 8) ob 20 16)]) ⟨hx, hb, hml, hown, hts⟩ (k_X1_word l D cI h q ob 16 (by omega)) (cwV 1 hts gX1_isTagged_X1_word rfl rfl rfl (by decide +kernel) ⟨Nat.le_of_ble_eq_true rfl, Nat.le_of_ble_eq_true rfl⟩) hP hK hN [0, 1] rfl (va_recv hK hP (ci := 1) (q0 := 0) rfl rfl) rfl hl.1 rfl (Nat.le_of_ble_eq_true rfl) dX1_isTagged_19 ⟨Nat.zero_le _, Nat.zero_le _⟩ ?_
  refine lv_icmp_ne (tgt := 29) hx hb dX1_isTagged_22 (by decide) (fun c_22 => ?_) (fun c_22 => ?_)
  · -- 22 t
    refine lv_iconst (v := 0) hx hb dX1_isTagged_29 (by decide) ?_
    exact hret 30 ls 0 _ dX1_isTagged_30 rfl rfl (congrArg Value.int (by simp only [z_mTag, if_neg c_22]))
  · -- 22 f
    refine lv_iconst (v := 1) hx hb dX1_isTagged_25 (by decide) ?_
    refine lv_goto (tgt := 30) hx hb dX1_isTagged_26 (by decide) ?_
    exact hret 30 ls 1 _ dX1_isTagged_30 rfl rfl (congrArg Value.int (by simp only [z_mTag, if_pos c_22]))
abbrev rm_X1_readPage : Room := { frames := 1, cells := 0, slots := 0, locals := 21 }
set_option maxRecDepth 20000 in
theorem qX1_readPage_1 : (Cond.fieldLink RX1 11 "FlashBoot$Manifest" "bytes" "[I" : Cond) ∈ wsX1_readPage := List.mem_of_getElem? (i := 1) rfl
set_option maxRecDepth 20000 in
theorem iX1_readPage_X1 : ∀ w ∈ wsX10, w ∈ wsX1_readPage := by decide +kernel
set_option maxHeartbeats 4000000 in
set_option maxRecDepth 100000 in
theorem k_X1_readPage (l : Launch) (D : va_G) (cI : ClassId) (h q x y : Nat) (ob : RW) (f : RW) (p : Int32) (a : Int32) (st : Int32) (n : Int32) (k : Int32)   : zMW (S := RW) l D cI yX1_readPage wsX1_readPage rm_X1_readPage [.ref h, .ref x] (wMF cI h q x y ob f p a st n k) (z_rdP f ob) (fun _ => none) (fun u => wMF cI h q x y u f p a st n k) := by
  refine zEntW (cc := cX1_readPage) (maxL := 3) (ret := none) (own := RX1) (lvs := [(0, .ref h), (1, .ref x)]) (by decide) rfl rfl (Nat.le_of_ble_eq_true rfl) rfl ?_
  intro p0 e s m args below meth c Q ls A hx hb hml hts hown hP hK hN hD hS hA hl hret hretV
  refine lv_iconst (v := 0) hx hb dX1_readPage_0 (by decide) ?_
  refine lv_istore_n (lv' := [(2, .int 0), (0, .ref h), (1, .ref x)]) hx hb dX1_readPage_1 rfl hl (by decide) rfl (fun ls hl => ?_)
  have lp_2 : ∀ (g_2 : Nat) (i : Nat) (H : Heap) (locs : List Loc) (ls : Array Slot), i ≤ 20 → 20 - i < g_2 → va_P D vwCl (wMF cI h q x y (z_rdPN f ob i) f p a st n k) H → va_D A (wMF cI h q x y (z_rdPN f ob i) f p a st n k) → va_S A s.heap H locs → lv_has ls 3 [(0, .ref h), (1, .ref x), (2, .int (nI i))] → W p0 l e rm_X1_readPage s m args below meth c H locs 0 0 Q (F0 m 2 ls []) := by
    intro g_2
    induction g_2 with
    | zero => intro i H locs ls h1 h9_2; exact absurd h9_2 (Nat.not_lt_zero _)
    | succ g_2 ih_2 =>
      intro i H locs ls h1 h9_2 hP hD hS hl
      refine lv_iload_n hx hb dX1_readPage_2 rfl (lv_at hl 2 rfl) ?_
      refine lv_bipush (v := 20) hx hb dX1_readPage_3 (by decide) ?_
      refine z_icmp_ge (tgt := 29) hx hb dX1_readPage_5 (by decide) i 20 rfl rfl (by omega) (by omega) (fun c_5 => ?_) (fun c_5 => ?_)
      · -- 5 t
        exact hretV 29 ls _ _ (z_rdPN f ob i) dX1_readPage_29 rfl rfl (by rw [z_rdP, show 20 = i by omega]) hP hS
      · -- 5 f
        refine lv_aload_n hx hb dX1_readPage_8 rfl (lv_at hl 0 rfl) ?_
        refine va_get (D := D) (ci := 1) (v := .ref q) (C := RX1) (T := TX1) (N := 1) hx hb hts iX1_readPage_X1 hown hK hP 0 rfl rfl 0 (by decide) (hts _ qX1_readPage_1) (fun _ h9 => h9) rfl dX1_readPage_9 ?_
        refine lv_iload_n hx hb dX1_readPage_12 rfl (lv_at hl 2 rfl) ?_
        refine lv_aload_n hx hb dX1_readPage_13 rfl (lv_at hl 1 rfl) ?_
        refine lv_sipush (v := 640) hx hb dX1_readPage_14 (by decide) ?_
        refine lv_iload_n hx hb dX1_readPage_17 rfl (lv_at hl 2 rfl) ?_
        refine lv_iadd hx hb dX1_readPage_18 ?_
        refine z_top (v := nI (640 + i)) (nI_add 640 i) ?_
        refine zVR (As := [.int (nI (640 + i))]) (rest := [.int (nI i), .ref q]) ⟨hx, hb, hml, hown, hts⟩ (k_X0_at l D cI x y f p a st n k (nI (640 + i))) (cwV 1 hts gX1_readPage_X0_at rfl rfl rfl (by decide +kernel) ⟨Nat.le_of_ble_eq_true rfl, Nat.le_of_ble_eq_true rfl⟩) hP hK hN [2, 3] rfl (va_recv hK hP (ci := 0) (q0 := 2) rfl rfl) rfl hl.1 rfl (Nat.le_of_ble_eq_true rfl) dX1_readPage_19 ⟨Nat.zero_le _, Nat.zero_le _⟩ ?_
        refine z_iast hx hb hK hP hD hS 1 0 rfl rfl i (rfl) (by omega) (by decide) dX1_readPage_22 (fun H locs hP hD hS => ?_)
        have hP : va_P D vwCl (wMF cI h q x y (upd (z_rdPN f ob i) i (z_at f (nI (640 + i)))) f p a st n k) _ := hP
        have hD : va_D A (wMF cI h q x y (upd (z_rdPN f ob i) i (z_at f (nI (640 + i)))) f p a st n k) := hD
        refine lv_iinc (v := (nI (i + 1))) (lv' := [(2, .int (nI (i + 1))), (0, .ref h), (1, .ref x)]) hx hb dX1_readPage_23 hl (k := 2) rfl (z_inc _ _ rfl) (by decide) rfl (fun ls hl => ?_)
        refine lv_goto (tgt := 2) hx hb dX1_readPage_26 (by decide) ?_
        exact ih_2 (i + 1) _ _ _ (by omega) (by omega) hP hD hS (lv_sub hl [1, 2, 0] rfl)
  exact lp_2 _ 0 _ _ _ (by omega) (Nat.lt_succ_self _) hP hD hS (lv_sub hl [1, 2, 0] rfl)
abbrev rm_X1_readTape : Room := { frames := 1, cells := 0, slots := 0, locals := 40 }
set_option maxRecDepth 20000 in
theorem iX1_readTape_X4 : ∀ w ∈ wsX40, w ∈ wsX1_readTape := by decide +kernel
set_option maxRecDepth 20000 in
theorem qX1_readTape_1 : (Cond.fieldLink RX1 11 "FlashBoot$Manifest" "bytes" "[I" : Cond) ∈ wsX1_readTape := List.mem_of_getElem? (i := 1) rfl
set_option maxRecDepth 20000 in
theorem iX1_readTape_X1 : ∀ w ∈ wsX10, w ∈ wsX1_readTape := by decide +kernel
set_option maxRecDepth 20000 in
theorem qX1_readTape_2 : (Cond.methodLink RX1 18 arraycopyName : Cond) ∈ wsX1_readTape := List.mem_of_getElem? (i := 2) rfl
set_option maxRecDepth 20000 in
theorem qX1_readTape_3 : (Cond.native arraycopyName : Cond) ∈ wsX1_readTape := List.mem_of_getElem? (i := 3) rfl
set_option maxRecDepth 20000 in
theorem qX1_readTape_4 : (Cond.static arraycopyName : Cond) ∈ wsX1_readTape := List.mem_of_getElem? (i := 4) rfl
set_option maxRecDepth 20000 in
theorem qX1_readTape_5 : (Cond.initialized "java/lang/System" : Cond) ∈ wsX1_readTape := List.mem_of_getElem? (i := 5) rfl
set_option maxHeartbeats 4000000 in
set_option maxRecDepth 100000 in
theorem k_X1_readTape (l : Launch) (D : va_G) (cI : ClassId) (h q x y : Nat) (ob : RW) (tb : RW) (tl : Nat)   : zMW (S := RW) l D cI yX1_readTape wsX1_readTape rm_X1_readTape [.ref h, .ref x] (wMT cI h q x y ob tb tl) (z_rdT tb ob) (fun _ => none) (fun u => wMT cI h q x y u tb tl) := by
  refine zEntW (cc := cX1_readTape) (maxL := 2) (ret := none) (own := RX1) (lvs := [(0, .ref h), (1, .ref x)]) (by decide) rfl rfl (Nat.le_of_ble_eq_true rfl) rfl ?_
  intro p0 e s m args below meth c Q ls A hx hb hml hts hown hP hK hN hD hS hA hl hret hretV
  refine lv_aload_n hx hb dX1_readTape_0 rfl (lv_at hl 1 rfl) ?_
  refine va_getN (host := RX5) (D := D) (ci := 4) (v := .ref y) (C := RX4) (T := TX4) (N := 2) hx hb hts iX1_readTape_X4 hown hK hP 2 rfl rfl 0 (by decide) (zN_use hN 3 rfl) (fun _ h9 => h9) rfl dX1_readTape_1 ?_
  refine lv_iconst (v := 0) hx hb dX1_readTape_4 (by decide) ?_
  refine lv_aload_n hx hb dX1_readTape_5 rfl (lv_at hl 0 rfl) ?_
  refine va_get (D := D) (ci := 1) (v := .ref q) (C := RX1) (T := TX1) (N := 1) hx hb hts iX1_readTape_X1 hown hK hP 0 rfl rfl 0 (by decide) (hts _ qX1_readTape_1) (fun _ h9 => h9) rfl dX1_readTape_6 ?_
  refine lv_iconst (v := 0) hx hb dX1_readTape_9 (by decide) ?_
  refine lv_bipush (v := 20) hx hb dX1_readTape_10 (by decide) ?_
  refine va_copyi hx hb (hml.trans hl.1.symm) hown (hts _ qX1_readTape_2) (hts _ qX1_readTape_3) (hts _ qX1_readTape_4) (hts _ qX1_readTape_5) hK hP hD hS 3 1 0 0 rfl rfl rfl rfl rfl (by decide) (by decide) (by decide) (by decide) (by decide) (fun _ _ => rfl) (Nat.le_of_ble_eq_true rfl) (Nat.le_of_ble_eq_true rfl) dX1_readTape_12 (fun H locs hP hD hS => ?_)
  have hP : va_P D vwCl (wMT cI h q x y (va_cpy tb ob (0 : Int32).toNatClampNeg (0 : Int32).toNatClampNeg (20 : Int32).toNatClampNeg) tb tl) _ := hP
  have hD : va_D A (wMT cI h q x y (va_cpy tb ob (0 : Int32).toNatClampNeg (0 : Int32).toNatClampNeg (20 : Int32).toNatClampNeg) tb tl) := hD
  exact hretV 15 ls _ _ (va_cpy tb ob (0 : Int32).toNatClampNeg (0 : Int32).toNatClampNeg (20 : Int32).toNatClampNeg) dX1_readTape_15 rfl rfl (by rfl) hP hS
abbrev rm_X1_standsIn : Room := { frames := 1, cells := 0, slots := 0, locals := 21 }
set_option maxRecDepth 20000 in
theorem qX1_standsIn_1 : (Cond.fieldLink RX1 11 "FlashBoot$Manifest" "bytes" "[I" : Cond) ∈ wsX1_standsIn := List.mem_of_getElem? (i := 1) rfl
set_option maxRecDepth 20000 in
theorem iX1_standsIn_X1 : ∀ w ∈ wsX10, w ∈ wsX1_standsIn := by decide +kernel
set_option maxHeartbeats 4000000 in
set_option maxRecDepth 100000 in
theorem k_X1_standsIn (l : Launch) (D : va_G) (cI : ClassId) (h q x y : Nat) (ob : RW) (f : RW) (p : Int32) (a : Int32) (st : Int32) (n : Int32) (k : Int32)   : zMR l D cI yX1_standsIn wsX1_standsIn rm_X1_standsIn [.ref h, .ref x] (wMF cI h q x y ob f p a st n k) (.int (z_stand f ob)) := by
  refine zEntR (cc := cX1_standsIn) (maxL := 3) (ret := (some .boolean)) (own := RX1) (lvs := [(0, .ref h), (1, .ref x)]) (by decide) rfl rfl rfl rfl (Nat.le_of_ble_eq_true rfl) rfl ?_
  intro p0 e s m args below meth c Q ls hx hb hml hts hown hP hK hN hl hret hretA
  refine lv_iconst (v := 0) hx hb dX1_standsIn_0 (by decide) ?_
  refine lv_istore_n (lv' := [(2, .int 0), (0, .ref h), (1, .ref x)]) hx hb dX1_standsIn_1 rfl hl (by decide) rfl (fun ls hl => ?_)
  have lp_2 : ∀ (g_2 : Nat) (d : Nat) (i : Nat) (ls : Array Slot), i + d = 20 → z_standN f ob d i = z_standN f ob 20 0 → d < g_2 → lv_has ls 3 [(0, .ref h), (1, .ref x), (2, .int (nI i))] → W p0 l e rm_X1_standsIn s m args below meth c s.heap [] 0 0 Q (F0 m 2 ls []) := by
    intro g_2
    induction g_2 with
    | zero => intro d i ls h1 hy h9_2; exact absurd h9_2 (Nat.not_lt_zero _)
    | succ g_2 ih_2 =>
      intro d i ls h1 hy h9_2 hl
      refine lv_iload_n hx hb dX1_standsIn_2 rfl (lv_at hl 2 rfl) ?_
      refine lv_bipush (v := 20) hx hb dX1_standsIn_3 (by decide) ?_
      refine z_icmp_ge (tgt := 34) hx hb dX1_standsIn_5 (by decide) i 20 rfl rfl (by omega) (by omega) (fun c_5 => ?_) (fun c_5 => ?_)
      · -- 5 t
        obtain rfl : d = 0 := by omega
        refine lv_iconst (v := 1) hx hb dX1_standsIn_34 (by decide) ?_
        exact hret 35 ls 1 _ dX1_standsIn_35 rfl rfl (congrArg Value.int (hy))
      · -- 5 f
        obtain ⟨d, rfl⟩ : ∃ d1, d = d1 + 1 := ⟨d - 1, by omega⟩
        refine lv_aload_n hx hb dX1_standsIn_8 rfl (lv_at hl 0 rfl) ?_
        refine va_get (D := D) (ci := 1) (v := .ref q) (C := RX1) (T := TX1) (N := 1) hx hb hts iX1_standsIn_X1 hown hK hP 0 rfl rfl 0 (by decide) (hts _ qX1_standsIn_1) (fun _ h9 => h9) rfl dX1_standsIn_9 ?_
        refine lv_iload_n hx hb dX1_standsIn_12 rfl (lv_at hl 2 rfl) ?_
        refine z_iald hx hb hK hP 1 0 rfl rfl i rfl (by omega) (by decide) dX1_standsIn_13 ?_
        refine lv_aload_n hx hb dX1_standsIn_14 rfl (lv_at hl 1 rfl) ?_
        refine lv_sipush (v := 640) hx hb dX1_standsIn_15 (by decide) ?_
        refine lv_iload_n hx hb dX1_standsIn_18 rfl (lv_at hl 2 rfl) ?_
        refine lv_iadd hx hb dX1_standsIn_19 ?_
        refine z_top (v := nI (640 + i)) (nI_add 640 i) ?_
        refine zVR (As := [.int (nI (640 + i))]) (rest := [.int (ob i)]) ⟨hx, hb, hml, hown, hts⟩ (k_X0_at l D cI x y f p a st n k (nI (640 + i))) (cwV 1 hts gX1_standsIn_X0_at rfl rfl rfl (by decide +kernel) ⟨Nat.le_of_ble_eq_true rfl, Nat.le_of_ble_eq_true rfl⟩) hP hK hN [2, 3] rfl (va_recv hK hP (ci := 0) (q0 := 2) rfl rfl) rfl hl.1 rfl (Nat.le_of_ble_eq_true rfl) dX1_standsIn_20 ⟨Nat.zero_le _, Nat.zero_le _⟩ ?_
        refine lv_icmp_eq (tgt := 28) hx hb dX1_standsIn_23 (by decide) (fun c_23 => ?_) (fun c_23 => ?_)
        · -- 23 t
          refine lv_iinc (v := (nI (i + 1))) (lv' := [(2, .int (nI (i + 1))), (0, .ref h), (1, .ref x)]) hx hb dX1_standsIn_28 hl (k := 2) rfl (z_inc _ _ rfl) (by decide) rfl (fun ls hl => ?_)
          refine lv_goto (tgt := 2) hx hb dX1_standsIn_31 (by decide) ?_
          exact ih_2 d (i + 1) _ (by omega) (by rw [← hy, z_standN, if_pos c_23]) (by omega) (lv_sub hl [1, 2, 0] rfl)
        · -- 23 f
          refine lv_iconst (v := 0) hx hb dX1_standsIn_26 (by decide) ?_
          exact hret 27 ls 0 _ dX1_standsIn_27 rfl rfl (congrArg Value.int (by rw [z_stand, ← hy, z_standN, if_neg c_23]))
  exact lp_2 _ 20 0 _ (by omega) rfl (Nat.lt_succ_self _) (lv_sub hl [1, 2, 0] rfl)
abbrev rm_X4_add : Room := { frames := 0, cells := 0, slots := 0, locals := 0 }
set_option maxRecDepth 20000 in
theorem qX4_add_1 : (Cond.fieldLink RX4 15 "FlashBoot$Tape" "length" "I" : Cond) ∈ wsX4_add := List.mem_of_getElem? (i := 1) rfl
set_option maxRecDepth 20000 in
theorem iX4_add_X4 : ∀ w ∈ wsX40, w ∈ wsX4_add := by decide +kernel
set_option maxRecDepth 20000 in
theorem qX4_add_2 : (Cond.fieldLink RX4 9 "FlashBoot$Tape" "bytes" "[I" : Cond) ∈ wsX4_add := List.mem_of_getElem? (i := 2) rfl
set_option maxHeartbeats 4000000 in
set_option maxRecDepth 100000 in
theorem k_X4_add (l : Launch) (D : va_G) (cI : ClassId) (h q : Nat) (tb : RW) (tl : Nat) (x : Int64) (nn : Nat) (hnn : nn ≤ 8) (htl : tl ≤ 192) : zMW (S := Int32 × RW × Nat) l D cI yX4_add wsX4_add rm_X4_add [.ref h, .long x, .int (nI nn)] (wT cI h q tb tl) (z_add x nn (tb, tl)) (fun u => some (.int u.1)) (fun u => wT cI h q u.2.1 u.2.2) := by
  refine zEntW (cc := cX4_add) (maxL := 5) (ret := (some .boolean)) (own := RX4) (lvs := [(0, .ref h), (1, .long x), (3, .int (nI nn))]) (by decide) rfl rfl (Nat.le_of_ble_eq_true rfl) rfl ?_
  intro p0 e s m args below meth c Q ls A hx hb hml hts hown hP hK hN hD hS hA hl hret hretV
  refine lv_aload_n hx hb dX4_add_0 rfl (lv_at hl 0 rfl) ?_
  refine va_get (D := D) (ci := 4) (v := .int (nI tl)) (C := RX4) (T := TX4) (N := 2) hx hb hts iX4_add_X4 hown hK hP 0 rfl rfl 1 (by decide) (hts _ qX4_add_1) (fun _ h9 => h9) rfl dX4_add_1 ?_
  refine lv_iload_n hx hb dX4_add_4 rfl (lv_at hl 2 rfl) ?_
  refine lv_iadd hx hb dX4_add_5 ?_
  refine z_top (v := nI (tl + nn)) (nI_add tl nn) ?_
  refine lv_sipush (v := 192) hx hb dX4_add_6 (by decide) ?_
  refine z_icmp_le (tgt := 14) hx hb dX4_add_9 (by decide) (tl + nn) 192 rfl rfl (by omega) (by omega) (fun c_9 => ?_) (fun c_9 => ?_)
  · -- 9 t
    refine lv_iload_n hx hb dX4_add_14 rfl (lv_at hl 2 rfl) ?_
    refine lv_iconst (v := 1) hx hb dX4_add_15 (by decide) ?_
    refine lv_isub hx hb dX4_add_16 ?_
    refine lv_istore (lv' := [(4, .int ((nI nn) - 1)), (0, .ref h), (1, .long x), (3, .int (nI nn))]) hx hb dX4_add_17 hl (by decide) rfl (fun ls hl => ?_)
    have lp_19 : ∀ (g_19 : Nat) (m2 : Nat) (tb9 : RW) (t9 : Nat) (H : Heap) (locs : List Loc) (ls : Array Slot), t9 + m2 = tl + nn → z_addN x m2 tb9 t9 = z_addN x nn tb tl → m2 < g_19 → va_P D vwCl (wT cI h q tb9 t9) H → va_D A (wT cI h q tb9 t9) → va_S A s.heap H locs → lv_has ls 5 [(0, .ref h), (1, .long x), (3, .int (nI nn)), (4, .int (nI m2 - 1))] → W p0 l e rm_X4_add s m args below meth c H locs 0 0 Q (F0 m 19 ls []) := by
      intro g_19
      induction g_19 with
      | zero => intro m2 tb9 t9 H locs ls h1 hy h9_19; exact absurd h9_19 (Nat.not_lt_zero _)
      | succ g_19 ih_19 =>
        intro m2 tb9 t9 H locs ls h1 hy h9_19 hP hD hS hl
        refine lv_iload hx hb dX4_add_19 (lv_at hl 3 rfl) ?_
        refine lv_if_lt (tgt := 61) hx hb dX4_add_21 (by decide) (fun c_21 => ?_) (fun c_21 => ?_)
        · -- 21 t
          obtain rfl : m2 = 0 := by
            rcases m2 with _ | m1
            · rfl
            · exact absurd (by rw [z_dec] at c_21; exact c_21) (nI_pos (by omega))
          refine lv_iconst (v := 1) hx hb dX4_add_61 (by decide) ?_
          exact hret 62 ls _ _ (1, tb9, t9) 1 _ dX4_add_62 rfl rfl rfl (by rw [z_add, if_pos c_9, ← hy, ← (show t9 = tl + nn by omega)]; rfl) hP hS
        · -- 21 f
          obtain ⟨m1, rfl⟩ : ∃ m1, m2 = m1 + 1 := by
            rcases m2 with _ | m1
            · exact absurd (by decide) c_21
            · exact ⟨m1, rfl⟩
          rw [z_dec] at hl
          refine lv_aload_n hx hb dX4_add_24 rfl (lv_at hl 0 rfl) ?_
          refine va_get (D := D) (ci := 4) (v := .ref q) (C := RX4) (T := TX4) (N := 2) hx hb hts iX4_add_X4 hown hK hP 0 rfl rfl 0 (by decide) (hts _ qX4_add_2) (fun _ h9 => h9) rfl dX4_add_25 ?_
          refine lv_aload_n hx hb dX4_add_28 rfl (lv_at hl 0 rfl) ?_
          refine va_get (D := D) (ci := 4) (v := .int (nI t9)) (C := RX4) (T := TX4) (N := 2) hx hb hts iX4_add_X4 hown hK hP 0 rfl rfl 1 (by decide) (hts _ qX4_add_1) (fun _ h9 => h9) rfl dX4_add_29 ?_
          refine lv_lload_n hx hb dX4_add_32 rfl (lv_at hl 1 rfl) ?_
          refine lv_bipush (v := 8) hx hb dX4_add_33 (by decide) ?_
          refine lv_iload hx hb dX4_add_35 (lv_at hl 3 rfl) ?_
          refine lv_imul hx hb dX4_add_37 ?_
          refine z_top (v := nI (8 * m1)) (pk_mul 8 m1) ?_
          refine lv_lushr (v := zlushr x (nI (8 * m1))) hx hb dX4_add_38 rfl ?_
          refine lv_l2i (v := Int64.toInt32 (zlushr x (nI (8 * m1)))) hx hb dX4_add_39 rfl ?_
          refine lv_sipush (v := 255) hx hb dX4_add_40 (by decide) ?_
          refine lv_iand hx hb dX4_add_43 ?_
          refine z_iast hx hb hK hP hD hS 1 0 rfl rfl t9 (rfl) (by omega) (by decide) dX4_add_44 (fun H locs hP hD hS => ?_)
          have hP : va_P D vwCl (wT cI h q (upd tb9 t9 ((Int64.toInt32 (zlushr x (nI (8 * m1)))) &&& 255)) t9) _ := hP
          have hD : va_D A (wT cI h q (upd tb9 t9 ((Int64.toInt32 (zlushr x (nI (8 * m1)))) &&& 255)) t9) := hD
          refine lv_aload_n hx hb dX4_add_45 rfl (lv_at hl 0 rfl) ?_
          refine lv_dup hx hb dX4_add_46 rfl ?_
          refine va_get (D := D) (ci := 4) (v := .int (nI t9)) (C := RX4) (T := TX4) (N := 2) hx hb hts iX4_add_X4 hown hK hP 0 rfl rfl 1 (by decide) (hts _ qX4_add_1) (fun _ h9 => h9) rfl dX4_add_47 ?_
          refine lv_iconst (v := 1) hx hb dX4_add_50 (by decide) ?_
          refine lv_iadd hx hb dX4_add_51 ?_
          refine z_top (v := nI (t9 + 1)) (nI_add t9 1) ?_
          refine va_put (D := D) (ci := 4) (v := .int (nI (t9 + 1))) (ty := .int) (C := RX4) (T := TX4) (N := 2) hx hb hts iX4_add_X4 tyX4 tyX4_ok nmX4 hown hK hP hD hS 0 rfl rfl 1 (by decide) (hts _ qX4_add_1) (fun _ h9 => h9) rfl (by decide +kernel) rfl rfl (Nat.le_of_ble_eq_true rfl) dX4_add_52 (fun H locs hP hD hS => ?_)
          have hP : va_P D vwCl (wT cI h q (upd tb9 t9 ((Int64.toInt32 (zlushr x (nI (8 * m1)))) &&& 255)) (t9 + 1)) _ := hP
          have hD : va_D A (wT cI h q (upd tb9 t9 ((Int64.toInt32 (zlushr x (nI (8 * m1)))) &&& 255)) (t9 + 1)) := hD
          refine lv_iinc (v := (nI m1 - 1)) (lv' := [(4, .int (nI m1 - 1)), (0, .ref h), (1, .long x), (3, .int (nI nn))]) hx hb dX4_add_55 hl (k := 3) rfl (z_addm1 _) (by decide) rfl (fun ls hl => ?_)
          refine lv_goto (tgt := 19) hx hb dX4_add_58 (by decide) ?_
          exact ih_19 m1 (upd tb9 t9 ((Int64.toInt32 (zlushr x (nI (8 * m1)))) &&& 255)) (t9 + 1) _ _ _ (by omega) (by rw [← hy, z_addN]; rfl) (by omega) hP hD hS (lv_sub hl [1, 2, 3, 0] rfl)
    exact lp_19 _ nn tb tl _ _ _ (by omega) rfl (Nat.lt_succ_self _) hP hD hS (lv_sub hl [1, 2, 3, 0] rfl)
  · -- 9 f
    refine lv_iconst (v := 0) hx hb dX4_add_12 (by decide) ?_
    exact hret 13 ls _ _ (0, tb, tl) 0 _ dX4_add_13 rfl rfl rfl (by simp only [z_add, if_neg (Nat.not_le_of_lt c_9)]) hP hS
abbrev rm_X2_take : Room := { frames := 1, cells := 0, slots := 0, locals := 21 }
set_option maxRecDepth 20000 in
theorem qX2_take_1 : (Cond.fieldLink RX2 15 "FlashBoot$Patch" "made" "I" : Cond) ∈ wsX2_take := List.mem_of_getElem? (i := 1) rfl
set_option maxRecDepth 20000 in
theorem iX2_take_X2 : ∀ w ∈ wsX20, w ∈ wsX2_take := by decide +kernel
set_option maxRecDepth 20000 in
theorem qX2_take_2 : (Cond.fieldLink RX2 9 "FlashBoot$Patch" "image" "[I" : Cond) ∈ wsX2_take := List.mem_of_getElem? (i := 2) rfl
set_option maxHeartbeats 4000000 in
set_option maxRecDepth 100000 in
theorem k_X2_take (l : Launch) (D : va_G) (cI : ClassId) (h q x y : Nat) (im : RW) (md : Nat) (f : RW) (p : Int32) (a : Int32) (st : Int32) (n : Int32) (k : Int32) (fr : Nat) (ct : Nat) (hmd : md ≤ 192) (hct : ct ≤ 300) (hfr : fr ≤ 2000) : zMW (S := Int32 × RW × Nat) l D cI yX2_take wsX2_take rm_X2_take [.ref h, .ref x, .int (nI fr), .int (nI ct)] (wPF cI h q x y im md f p a st n k) (z_take f fr ct (im, md)) (fun u => some (.int u.1)) (fun u => wPF cI h q x y u.2.1 u.2.2 f p a st n k) := by
  refine zEntW (cc := cX2_take) (maxL := 5) (ret := (some .boolean)) (own := RX2) (lvs := [(0, .ref h), (1, .ref x), (2, .int (nI fr)), (3, .int (nI ct))]) (by decide) rfl rfl (Nat.le_of_ble_eq_true rfl) rfl ?_
  intro p0 e s m args below meth c Q ls A hx hb hml hts hown hP hK hN hD hS hA hl hret hretV
  refine lv_aload_n hx hb dX2_take_0 rfl (lv_at hl 0 rfl) ?_
  refine va_get (D := D) (ci := 2) (v := .int (nI md)) (C := RX2) (T := TX2) (N := 2) hx hb hts iX2_take_X2 hown hK hP 0 rfl rfl 1 (by decide) (hts _ qX2_take_1) (fun _ h9 => h9) rfl dX2_take_1 ?_
  refine lv_iload_n hx hb dX2_take_4 rfl (lv_at hl 3 rfl) ?_
  refine lv_iadd hx hb dX2_take_5 ?_
  refine z_top (v := nI (md + ct)) (nI_add md ct) ?_
  refine lv_sipush (v := 192) hx hb dX2_take_6 (by decide) ?_
  refine z_icmp_le (tgt := 14) hx hb dX2_take_9 (by decide) (md + ct) 192 rfl rfl (by omega) (by omega) (fun c_9 => ?_) (fun c_9 => ?_)
  · -- 9 t
    refine lv_iconst (v := 0) hx hb dX2_take_14 (by decide) ?_
    refine lv_istore (lv' := [(4, .int 0), (0, .ref h), (1, .ref x), (2, .int (nI fr)), (3, .int (nI ct))]) hx hb dX2_take_15 hl (by decide) rfl (fun ls hl => ?_)
    have lp_17 : ∀ (g_17 : Nat) (i : Nat) (H : Heap) (locs : List Loc) (ls : Array Slot), i ≤ ct → ct - i < g_17 → va_P D vwCl (wPF cI h q x y (z_takeN f fr im md i) (md + i) f p a st n k) H → va_D A (wPF cI h q x y (z_takeN f fr im md i) (md + i) f p a st n k) → va_S A s.heap H locs → lv_has ls 5 [(0, .ref h), (1, .ref x), (2, .int (nI fr)), (3, .int (nI ct)), (4, .int (nI i))] → W p0 l e rm_X2_take s m args below meth c H locs 0 0 Q (F0 m 17 ls []) := by
      intro g_17
      induction g_17 with
      | zero => intro i H locs ls h1 h9_17; exact absurd h9_17 (Nat.not_lt_zero _)
      | succ g_17 ih_17 =>
        intro i H locs ls h1 h9_17 hP hD hS hl
        refine lv_iload hx hb dX2_take_17 (lv_at hl 4 rfl) ?_
        refine lv_iload_n hx hb dX2_take_19 rfl (lv_at hl 3 rfl) ?_
        refine z_icmp_ge (tgt := 56) hx hb dX2_take_20 (by decide) i ct rfl rfl (by omega) (by omega) (fun c_20 => ?_) (fun c_20 => ?_)
        · -- 20 t
          refine lv_iconst (v := 1) hx hb dX2_take_56 (by decide) ?_
          exact hret 57 ls _ _ (1, z_takeN f fr im md i, (md + i)) 1 _ dX2_take_57 rfl rfl rfl (by rw [z_take, if_pos c_9, show ct = i by omega]) hP hS
        · -- 20 f
          refine lv_aload_n hx hb dX2_take_23 rfl (lv_at hl 0 rfl) ?_
          refine va_get (D := D) (ci := 2) (v := .ref q) (C := RX2) (T := TX2) (N := 2) hx hb hts iX2_take_X2 hown hK hP 0 rfl rfl 0 (by decide) (hts _ qX2_take_2) (fun _ h9 => h9) rfl dX2_take_24 ?_
          refine lv_aload_n hx hb dX2_take_27 rfl (lv_at hl 0 rfl) ?_
          refine va_get (D := D) (ci := 2) (v := .int (nI (md + i))) (C := RX2) (T := TX2) (N := 2) hx hb hts iX2_take_X2 hown hK hP 0 rfl rfl 1 (by decide) (hts _ qX2_take_1) (fun _ h9 => h9) rfl dX2_take_28 ?_
          refine lv_aload_n hx hb dX2_take_31 rfl (lv_at hl 1 rfl) ?_
          refine lv_iload_n hx hb dX2_take_32 rfl (lv_at hl 2 rfl) ?_
          refine lv_iload hx hb dX2_take_33 (lv_at hl 4 rfl) ?_
          refine lv_iadd hx hb dX2_take_35 ?_
          refine z_top (v := nI (fr + i)) (nI_add fr i) ?_
          refine zVR (As := [.int (nI (fr + i))]) (rest := [.int (nI (md + i)), .ref q]) ⟨hx, hb, hml, hown, hts⟩ (k_X0_at l D cI x y f p a st n k (nI (fr + i))) (cwV 1 hts gX2_take_X0_at rfl rfl rfl (by decide +kernel) ⟨Nat.le_of_ble_eq_true rfl, Nat.le_of_ble_eq_true rfl⟩) hP hK hN [2, 3] rfl (va_recv hK hP (ci := 0) (q0 := 2) rfl rfl) rfl hl.1 rfl (Nat.le_of_ble_eq_true rfl) dX2_take_36 ⟨Nat.zero_le _, Nat.zero_le _⟩ ?_
          refine z_iast hx hb hK hP hD hS 1 0 rfl rfl (md + i) (rfl) (by omega) (by decide) dX2_take_39 (fun H locs hP hD hS => ?_)
          have hP : va_P D vwCl (wPF cI h q x y (upd (z_takeN f fr im md i) (md + i) (z_at f (nI (fr + i)))) (md + i) f p a st n k) _ := hP
          have hD : va_D A (wPF cI h q x y (upd (z_takeN f fr im md i) (md + i) (z_at f (nI (fr + i)))) (md + i) f p a st n k) := hD
          refine lv_aload_n hx hb dX2_take_40 rfl (lv_at hl 0 rfl) ?_
          refine lv_dup hx hb dX2_take_41 rfl ?_
          refine va_get (D := D) (ci := 2) (v := .int (nI (md + i))) (C := RX2) (T := TX2) (N := 2) hx hb hts iX2_take_X2 hown hK hP 0 rfl rfl 1 (by decide) (hts _ qX2_take_1) (fun _ h9 => h9) rfl dX2_take_42 ?_
          refine lv_iconst (v := 1) hx hb dX2_take_45 (by decide) ?_
          refine lv_iadd hx hb dX2_take_46 ?_
          refine z_top (v := nI ((md + i) + 1)) (nI_add (md + i) 1) ?_
          refine va_put (D := D) (ci := 2) (v := .int (nI ((md + i) + 1))) (ty := .int) (C := RX2) (T := TX2) (N := 2) hx hb hts iX2_take_X2 tyX2 tyX2_ok nmX2 hown hK hP hD hS 0 rfl rfl 1 (by decide) (hts _ qX2_take_1) (fun _ h9 => h9) rfl (by decide +kernel) rfl rfl (Nat.le_of_ble_eq_true rfl) dX2_take_47 (fun H locs hP hD hS => ?_)
          have hP : va_P D vwCl (wPF cI h q x y (upd (z_takeN f fr im md i) (md + i) (z_at f (nI (fr + i)))) ((md + i) + 1) f p a st n k) _ := hP
          have hD : va_D A (wPF cI h q x y (upd (z_takeN f fr im md i) (md + i) (z_at f (nI (fr + i)))) ((md + i) + 1) f p a st n k) := hD
          refine lv_iinc (v := (nI (i + 1))) (lv' := [(4, .int (nI (i + 1))), (0, .ref h), (1, .ref x), (2, .int (nI fr)), (3, .int (nI ct))]) hx hb dX2_take_50 hl (k := 4) rfl (z_inc _ _ rfl) (by decide) rfl (fun ls hl => ?_)
          refine lv_goto (tgt := 17) hx hb dX2_take_53 (by decide) ?_
          exact ih_17 (i + 1) _ _ _ (by omega) (by omega) hP hD hS (lv_sub hl [1, 2, 3, 4, 0] rfl)
    exact lp_17 _ 0 _ _ _ (Nat.zero_le _) (Nat.lt_succ_self _) hP hD hS (lv_sub hl [1, 2, 3, 4, 0] rfl)
  · -- 9 f
    refine lv_iconst (v := 0) hx hb dX2_take_12 (by decide) ?_
    exact hret 13 ls _ _ (0, im, md) 0 _ dX2_take_13 rfl rfl rfl (by simp only [z_take, if_neg (Nat.not_le_of_lt c_9)]) hP hS
abbrev rm_X2_takeBase : Room := { frames := 2, cells := 0, slots := 0, locals := 45 }
set_option maxHeartbeats 4000000 in
set_option maxRecDepth 100000 in
theorem k_X2_takeBase (l : Launch) (D : va_G) (cI : ClassId) (h q x y : Nat) (im : RW) (md : Nat) (f : RW) (p : Int32) (a : Int32) (st : Int32) (n : Int32) (k : Int32) (bs : Nat) (bl : Nat) (pl : Nat) (ct : Nat) (hmd : md ≤ 192) (hct : ct ≤ 300) (hpl : pl ≤ 300) (hbs : bs ≤ 300) (hbl : bl ≤ 300) : zMW (S := Int32 × RW × Nat) l D cI yX2_takeBase wsX2_takeBase rm_X2_takeBase [.ref h, .ref x, .int (nI bs), .int (nI bl), .int (nI pl), .int (nI ct)] (wPF cI h q x y im md f p a st n k) (z_takeB f bs bl pl ct (im, md)) (fun u => some (.int u.1)) (fun u => wPF cI h q x y u.2.1 u.2.2 f p a st n k) := by
  refine zEntW (cc := cX2_takeBase) (maxL := 6) (ret := (some .boolean)) (own := RX2) (lvs := [(0, .ref h), (1, .ref x), (2, .int (nI bs)), (3, .int (nI bl)), (4, .int (nI pl)), (5, .int (nI ct))]) (by decide) rfl rfl (Nat.le_of_ble_eq_true rfl) rfl ?_
  intro p0 e s m args below meth c Q ls A hx hb hml hts hown hP hK hN hD hS hA hl hret hretV
  refine lv_iload hx hb dX2_takeBase_0 (lv_at hl 4 rfl) ?_
  refine lv_iload hx hb dX2_takeBase_2 (lv_at hl 5 rfl) ?_
  refine lv_iadd hx hb dX2_takeBase_4 ?_
  refine z_top (v := nI (pl + ct)) (nI_add pl ct) ?_
  refine lv_iload_n hx hb dX2_takeBase_5 rfl (lv_at hl 3 rfl) ?_
  refine z_icmp_gt (tgt := 27) hx hb dX2_takeBase_6 (by decide) (pl + ct) bl rfl rfl (by omega) (by omega) (fun c_6 => ?_) (fun c_6 => ?_)
  · -- 6 t
    refine lv_iconst (v := 0) hx hb dX2_takeBase_27 (by decide) ?_
    exact hret 28 ls _ _ (0, im, md) 0 _ dX2_takeBase_28 rfl rfl rfl (by simp only [z_takeB, z_takeB2, if_pos c_6]) hP hS
  · -- 6 f
    refine lv_aload_n hx hb dX2_takeBase_9 rfl (lv_at hl 0 rfl) ?_
    refine lv_aload_n hx hb dX2_takeBase_10 rfl (lv_at hl 1 rfl) ?_
    refine lv_iload_n hx hb dX2_takeBase_11 rfl (lv_at hl 2 rfl) ?_
    refine lv_iload hx hb dX2_takeBase_12 (lv_at hl 4 rfl) ?_
    refine lv_iadd hx hb dX2_takeBase_14 ?_
    refine z_top (v := nI (bs + pl)) (nI_add bs pl) ?_
    refine lv_iload hx hb dX2_takeBase_15 (lv_at hl 5 rfl) ?_
    refine zVW (ws' := fun u => wPF cI h q x y u.2.1 u.2.2 f p a st n k) (As := [.ref x, .int (nI (bs + pl)), .int (nI ct)]) (rest := []) ⟨hx, hb, hml, hown, hts⟩ (k_X2_take l D cI h q x y im md f p a st n k (bs + pl) ct (by omega) (by omega) (by omega)) (cwV 3 hts gX2_takeBase_X2_take rfl rfl rfl (by decide +kernel) ⟨Nat.le_of_ble_eq_true rfl, Nat.le_of_ble_eq_true rfl⟩) hP hK hN hD hS hA [0, 1, 2, 3] [] [] rfl (by decide) rfl (fun _ => rfl) (fun _ => rfl) (fun _ => rfl) rfl (va_recv hK hP (ci := 2) (q0 := 0) rfl rfl) rfl hl.1 rfl (Nat.le_of_ble_eq_true rfl) dX2_takeBase_17 ⟨Nat.zero_le _, Nat.zero_le _⟩ (fun u_17 H locs hu_17 hP hD hS => ?_)
    obtain ⟨res_17, im_17, md_17⟩ := u_17
    have hP : va_P D vwCl (wPF cI h q x y im_17 md_17 f p a st n k) _ := hP
    have hD : va_D A (wPF cI h q x y im_17 md_17 f p a st n k) := hD
    refine W.eq (g2 := F0 m 20 ls [.int res_17]) rfl ?_
    refine lv_if_eq (tgt := 27) hx hb dX2_takeBase_20 (by decide) (fun c_20 => ?_) (fun c_20 => ?_)
    · -- 20 t
      refine lv_iconst (v := 0) hx hb dX2_takeBase_27 (by decide) ?_
      exact hret 28 ls _ _ (0, im_17, md_17) 0 _ dX2_takeBase_28 rfl rfl rfl (by simp only [z_takeB, z_takeB2, ← hu_17, if_neg (Nat.not_lt_of_le c_6), if_pos c_20]) hP hS
    · -- 20 f
      refine lv_iconst (v := 1) hx hb dX2_takeBase_23 (by decide) ?_
      refine lv_goto (tgt := 28) hx hb dX2_takeBase_24 (by decide) ?_
      exact hret 28 ls _ _ (1, im_17, md_17) 1 _ dX2_takeBase_28 rfl rfl rfl (by simp only [z_takeB, z_takeB2, ← hu_17, if_neg (Nat.not_lt_of_le c_6), if_neg c_20]) hP hS
abbrev rm_X2_unfold : Room := { frames := 3, cells := 0, slots := 0, locals := 70 }
set_option maxRecDepth 20000 in
theorem qX2_unfold_1 : (Cond.fieldLink RX2 15 "FlashBoot$Patch" "made" "I" : Cond) ∈ wsX2_unfold := List.mem_of_getElem? (i := 1) rfl
set_option maxRecDepth 20000 in
theorem iX2_unfold_X2 : ∀ w ∈ wsX20, w ∈ wsX2_unfold := by decide +kernel
set_option maxHeartbeats 4000000 in
set_option maxRecDepth 100000 in
theorem k_X2_unfold (l : Launch) (D : va_G) (cI : ClassId) (h q x y : Nat) (im : RW) (md : Nat) (f : RW) (p : Int32) (a : Int32) (st : Int32) (n : Int32) (k : Int32) (pn : Nat) (bs : Nat) (bl : Nat) (hpn : pn ≤ 255) (hbs : bs ≤ 300) (hbl : bl ≤ 255) (hB : zbOk f) : zMW (S := Int32 × RW × Nat) l D cI yX2_unfold wsX2_unfold rm_X2_unfold [.ref h, .ref x, .int (nI pn), .int (nI bs), .int (nI bl)] (wPF cI h q x y im md f p a st n k) (z_unf f pn bs bl im) (fun u => some (.int u.1)) (fun u => wPF cI h q x y u.2.1 u.2.2 f p a st n k) := by
  refine zEntW (cc := cX2_unfold) (maxL := 9) (ret := (some .boolean)) (own := RX2) (lvs := [(0, .ref h), (1, .ref x), (2, .int (nI pn)), (3, .int (nI bs)), (4, .int (nI bl))]) (by decide) rfl rfl (Nat.le_of_ble_eq_true rfl) rfl ?_
  intro p0 e s m args below meth c Q ls A hx hb hml hts hown hP hK hN hD hS hA hl hret hretV
  refine lv_aload_n hx hb dX2_unfold_0 rfl (lv_at hl 0 rfl) ?_
  refine lv_iconst (v := 0) hx hb dX2_unfold_1 (by decide) ?_
  refine va_put (D := D) (ci := 2) (v := .int 0) (ty := .int) (C := RX2) (T := TX2) (N := 2) hx hb hts iX2_unfold_X2 tyX2 tyX2_ok nmX2 hown hK hP hD hS 0 rfl rfl 1 (by decide) (hts _ qX2_unfold_1) (fun _ h9 => h9) rfl (by decide +kernel) rfl rfl (Nat.le_of_ble_eq_true rfl) dX2_unfold_2 (fun H locs hP hD hS => ?_)
  have hP : va_P D vwCl (wPF cI h q x y im 0 f p a st n k) _ := hP
  have hD : va_D A (wPF cI h q x y im 0 f p a st n k) := hD
  refine lv_iconst (v := 0) hx hb dX2_unfold_5 (by decide) ?_
  refine lv_istore (lv' := [(5, .int 0), (0, .ref h), (1, .ref x), (2, .int (nI pn)), (3, .int (nI bs)), (4, .int (nI bl))]) hx hb dX2_unfold_6 hl (by decide) rfl (fun ls hl => ?_)
  have lp_8 : ∀ (g_8 : Nat) (d : Nat) (i : Nat) (im9 : RW) (md9 : Nat) (H : Heap) (locs : List Loc) (ls : Array Slot), 1 ≤ d → pn + 1 ≤ i + d → i ≤ 600 → md9 ≤ 192 → z_unfN f pn bs bl d i (im9, md9) = z_unf f pn bs bl im → d < g_8 → va_P D vwCl (wPF cI h q x y im9 md9 f p a st n k) H → va_D A (wPF cI h q x y im9 md9 f p a st n k) → va_S A s.heap H locs → lv_has ls 9 [(0, .ref h), (1, .ref x), (2, .int (nI pn)), (3, .int (nI bs)), (4, .int (nI bl)), (5, .int (nI i))] → W p0 l e rm_X2_unfold s m args below meth c H locs 0 0 Q (F0 m 8 ls []) := by
    intro g_8
    induction g_8 with
    | zero => intro d i im9 md9 H locs ls h1 h2 h4 h3 hy h9_8; exact absurd h9_8 (Nat.not_lt_zero _)
    | succ g_8 ih_8 =>
      intro d i im9 md9 H locs ls h1 h2 h4 h3 hy h9_8 hP hD hS hl
      refine lv_iload hx hb dX2_unfold_8 (lv_at hl 5 rfl) ?_
      refine lv_iload_n hx hb dX2_unfold_10 rfl (lv_at hl 2 rfl) ?_
      refine z_icmp_ge (tgt := 125) hx hb dX2_unfold_11 (by decide) i pn rfl rfl (by omega) (by omega) (fun c_11 => ?_) (fun c_11 => ?_)
      · -- 11 t
        obtain ⟨d, rfl⟩ : ∃ d1, d = d1 + 1 := ⟨d - 1, by omega⟩
        refine lv_iconst (v := 1) hx hb dX2_unfold_125 (by decide) ?_
        exact hret 126 ls _ _ (1, im9, md9) 1 _ dX2_unfold_126 rfl rfl rfl (by rw [← hy, z_unfN, if_pos (by omega)]) hP hS
      · -- 11 f
        obtain ⟨d, rfl⟩ : ∃ d1, d = d1 + 1 := ⟨d - 1, by omega⟩
        have hb9 := (hB (448 + i) (by omega)).2
        refine lv_aload_n hx hb dX2_unfold_14 rfl (lv_at hl 1 rfl) ?_
        refine lv_sipush (v := 448) hx hb dX2_unfold_15 (by decide) ?_
        refine lv_iload hx hb dX2_unfold_18 (lv_at hl 5 rfl) ?_
        refine lv_iadd hx hb dX2_unfold_20 ?_
        refine z_top (v := nI (448 + i)) (nI_add 448 i) ?_
        refine zVR (As := [.int (nI (448 + i))]) (rest := []) ⟨hx, hb, hml, hown, hts⟩ (k_X0_at l D cI x y f p a st n k (nI (448 + i))) (cwV 1 hts gX2_unfold_X0_at rfl rfl rfl (by decide +kernel) ⟨Nat.le_of_ble_eq_true rfl, Nat.le_of_ble_eq_true rfl⟩) hP hK hN [2, 3] rfl (va_recv hK hP (ci := 0) (q0 := 2) rfl rfl) rfl hl.1 rfl (Nat.le_of_ble_eq_true rfl) dX2_unfold_21 ⟨Nat.zero_le _, Nat.zero_le _⟩ ?_
        refine z_top (v := nI (zb f (448 + i))) (z_atB hB (by omega)) ?_
        refine lv_istore (lv' := [(6, .int (nI (zb f (448 + i)))), (0, .ref h), (1, .ref x), (2, .int (nI pn)), (3, .int (nI bs)), (4, .int (nI bl)), (5, .int (nI i))]) hx hb dX2_unfold_24 hl (by decide) rfl (fun ls hl => ?_)
        refine lv_sipush (v := 448) hx hb dX2_unfold_26 (by decide) ?_
        refine lv_iload hx hb dX2_unfold_29 (lv_at hl 6 rfl) ?_
        refine lv_iadd hx hb dX2_unfold_31 ?_
        refine z_top (v := nI (448 + i)) (nI_add 448 i) ?_
        refine lv_iconst (v := 1) hx hb dX2_unfold_32 (by decide) ?_
        refine lv_iadd hx hb dX2_unfold_33 ?_
        refine z_top (v := nI ((448 + i) + 1)) (nI_add (448 + i) 1) ?_
        refine lv_istore (lv' := [(7, .int (nI ((448 + i) + 1))), (6, .int (nI (zb f (448 + i)))), (0, .ref h), (1, .ref x), (2, .int (nI pn)), (3, .int (nI bs)), (4, .int (nI bl)), (5, .int (nI i))]) hx hb dX2_unfold_34 hl (by decide) rfl (fun ls hl => ?_)
        refine lv_iload hx hb dX2_unfold_36 (lv_at hl 1 rfl) ?_
        refine lv_sipush (v := 128) hx hb dX2_unfold_38 (by decide) ?_
        refine z_icmp_ge (tgt := 82) hx hb dX2_unfold_41 (by decide) (zb f (448 + i)) 128 rfl rfl (by omega) (by omega) (fun c_41 => ?_) (fun c_41 => ?_)
        · -- 41 t
          refine lv_iload hx hb dX2_unfold_82 (lv_at hl 1 rfl) ?_
          refine lv_sipush (v := 128) hx hb dX2_unfold_84 (by decide) ?_
          refine lv_isub hx hb dX2_unfold_87 ?_
          refine z_top (v := nI (zb f (448 + i) - 128)) (z_sub1 (a := zb f (448 + i)) (b := 128) (by omega)) ?_
          refine lv_iconst (v := 1) hx hb dX2_unfold_88 (by decide) ?_
          refine lv_iadd hx hb dX2_unfold_89 ?_
          refine z_top (v := nI ((zb f (448 + i) - 128) + 1)) (nI_add (zb f (448 + i) - 128) 1) ?_
          refine lv_istore (lv' := [(8, .int (nI ((zb f (448 + i) - 128) + 1))), (7, .int (nI ((448 + i) + 1))), (6, .int (nI (zb f (448 + i)))), (0, .ref h), (1, .ref x), (2, .int (nI pn)), (3, .int (nI bs)), (4, .int (nI bl)), (5, .int (nI i))]) hx hb dX2_unfold_90 hl (by decide) rfl (fun ls hl => ?_)
          refine lv_iinc (v := (nI (i + 2))) (lv' := [(5, .int (nI (i + 2))), (8, .int (nI ((zb f (448 + i) - 128) + 1))), (7, .int (nI ((448 + i) + 1))), (6, .int (nI (zb f (448 + i)))), (0, .ref h), (1, .ref x), (2, .int (nI pn)), (3, .int (nI bs)), (4, .int (nI bl))]) hx hb dX2_unfold_92 hl (k := 8) rfl (z_inc _ _ rfl) (by decide) rfl (fun ls hl => ?_)
          refine lv_iload hx hb dX2_unfold_95 (lv_at hl 0 rfl) ?_
          refine lv_iload_n hx hb dX2_unfold_97 rfl (lv_at hl 6 rfl) ?_
          refine z_icmp_gt (tgt := 120) hx hb dX2_unfold_98 (by decide) (i + 2) pn rfl rfl (by omega) (by omega) (fun c_98 => ?_) (fun c_98 => ?_)
          · -- 98 t
            refine lv_iconst (v := 0) hx hb dX2_unfold_120 (by decide) ?_
            exact hret 121 ls _ _ (0, im9, md9) 0 _ dX2_unfold_121 rfl rfl rfl (by rw [← hy, z_unfN, if_neg (by omega), if_neg (by omega), if_pos c_98]) hP hS
          · -- 98 f
            have hb8 := (hB (448 + i + 1) (by omega)).2
            refine lv_aload_n hx hb dX2_unfold_101 rfl (lv_at hl 4 rfl) ?_
            refine lv_aload_n hx hb dX2_unfold_102 rfl (lv_at hl 5 rfl) ?_
            refine lv_iload_n hx hb dX2_unfold_103 rfl (lv_at hl 7 rfl) ?_
            refine lv_iload hx hb dX2_unfold_104 (lv_at hl 8 rfl) ?_
            refine lv_aload_n hx hb dX2_unfold_106 rfl (lv_at hl 5 rfl) ?_
            refine lv_iload hx hb dX2_unfold_107 (lv_at hl 2 rfl) ?_
            refine zVR (As := [.int (nI ((448 + i) + 1))]) (rest := [.int (nI bl), .int (nI bs), .ref x, .ref h]) ⟨hx, hb, hml, hown, hts⟩ (k_X0_at l D cI x y f p a st n k (nI ((448 + i) + 1))) (cwV 1 hts gX2_unfold_X0_at rfl rfl rfl (by decide +kernel) ⟨Nat.le_of_ble_eq_true rfl, Nat.le_of_ble_eq_true rfl⟩) hP hK hN [2, 3] rfl (va_recv hK hP (ci := 0) (q0 := 2) rfl rfl) rfl hl.1 rfl (Nat.le_of_ble_eq_true rfl) dX2_unfold_109 ⟨Nat.zero_le _, Nat.zero_le _⟩ ?_
            refine z_top (v := nI (zb f (448 + i + 1))) (z_atB hB (by omega)) ?_
            refine lv_iload hx hb dX2_unfold_112 (lv_at hl 1 rfl) ?_
            refine zVW (ws' := fun u => wPF cI h q x y u.2.1 u.2.2 f p a st n k) (As := [.ref x, .int (nI bs), .int (nI bl), .int (nI (zb f (448 + i + 1))), .int (nI ((zb f (448 + i) - 128) + 1))]) (rest := []) ⟨hx, hb, hml, hown, hts⟩ (k_X2_takeBase l D cI h q x y im9 md9 f p a st n k bs bl (zb f (448 + i + 1)) ((zb f (448 + i) - 128) + 1) (by omega) (by omega) (by omega) (by omega) (by omega)) (cwV 5 hts gX2_unfold_X2_takeBase rfl rfl rfl (by decide +kernel) ⟨Nat.le_of_ble_eq_true rfl, Nat.le_of_ble_eq_true rfl⟩) hP hK hN hD hS hA [0, 1, 2, 3] [] [] rfl (by decide) rfl (fun _ => rfl) (fun _ => rfl) (fun _ => rfl) rfl (va_recv hK hP (ci := 2) (q0 := 0) rfl rfl) rfl hl.1 rfl (Nat.le_of_ble_eq_true rfl) dX2_unfold_114 ⟨Nat.zero_le _, Nat.zero_le _⟩ (fun u_114 H locs hu_114 hP hD hS => ?_)
            obtain ⟨res_114, im_114, md_114⟩ := u_114
            have hP : va_P D vwCl (wPF cI h q x y im_114 md_114 f p a st n k) _ := hP
            have hD : va_D A (wPF cI h q x y im_114 md_114 f p a st n k) := hD
            refine W.eq (g2 := F0 m 117 ls [.int res_114]) rfl ?_
            refine lv_if_ne (tgt := 122) hx hb dX2_unfold_117 (by decide) (fun c_117 => ?_) (fun c_117 => ?_)
            · -- 117 t
              refine lv_goto (tgt := 8) hx hb dX2_unfold_122 (by decide) ?_
              exact ih_8 d (i + 2) im_114 md_114 _ _ _ (by omega) (by omega) (by omega) (z_takeB_le hu_114 (by omega)) (by rw [← hy, z_unfN, if_neg (by omega), if_neg (by omega), if_neg (Nat.not_lt_of_le c_98), ← hu_114]; simp only [if_neg c_117]) (by omega) hP hD hS (lv_sub hl [4, 5, 6, 7, 8, 0] rfl)
            · -- 117 f
              refine lv_iconst (v := 0) hx hb dX2_unfold_120 (by decide) ?_
              exact hret 121 ls _ _ (0, im_114, md_114) 0 _ dX2_unfold_121 rfl rfl rfl (by rw [← hy, z_unfN, if_neg (by omega), if_neg (by omega), if_neg (Nat.not_lt_of_le c_98), ← hu_114]; simp only [if_pos c_117]) hP hS
        · -- 41 f
          refine lv_iload hx hb dX2_unfold_44 (lv_at hl 1 rfl) ?_
          refine lv_iconst (v := 1) hx hb dX2_unfold_46 (by decide) ?_
          refine lv_iadd hx hb dX2_unfold_47 ?_
          refine z_top (v := nI ((zb f (448 + i)) + 1)) (nI_add (zb f (448 + i)) 1) ?_
          refine lv_istore (lv' := [(8, .int (nI ((zb f (448 + i)) + 1))), (7, .int (nI ((448 + i) + 1))), (6, .int (nI (zb f (448 + i)))), (0, .ref h), (1, .ref x), (2, .int (nI pn)), (3, .int (nI bs)), (4, .int (nI bl)), (5, .int (nI i))]) hx hb dX2_unfold_48 hl (by decide) rfl (fun ls hl => ?_)
          refine lv_iload hx hb dX2_unfold_50 (lv_at hl 8 rfl) ?_
          refine lv_iconst (v := 1) hx hb dX2_unfold_52 (by decide) ?_
          refine lv_iload hx hb dX2_unfold_53 (lv_at hl 0 rfl) ?_
          refine lv_iadd hx hb dX2_unfold_55 ?_
          refine z_top (v := nI (1 + ((zb f (448 + i)) + 1))) (nI_add 1 ((zb f (448 + i)) + 1)) ?_
          refine lv_iadd hx hb dX2_unfold_56 ?_
          refine z_top (v := nI (i + (1 + ((zb f (448 + i)) + 1)))) (nI_add i (1 + ((zb f (448 + i)) + 1))) ?_
          refine lv_istore (lv' := [(5, .int (nI (i + (1 + ((zb f (448 + i)) + 1))))), (8, .int (nI ((zb f (448 + i)) + 1))), (7, .int (nI ((448 + i) + 1))), (6, .int (nI (zb f (448 + i)))), (0, .ref h), (1, .ref x), (2, .int (nI pn)), (3, .int (nI bs)), (4, .int (nI bl))]) hx hb dX2_unfold_57 hl (by decide) rfl (fun ls hl => ?_)
          refine lv_iload hx hb dX2_unfold_59 (lv_at hl 0 rfl) ?_
          refine lv_iload_n hx hb dX2_unfold_61 rfl (lv_at hl 6 rfl) ?_
          refine z_icmp_gt (tgt := 77) hx hb dX2_unfold_62 (by decide) (i + (1 + ((zb f (448 + i)) + 1))) pn rfl rfl (by omega) (by omega) (fun c_62 => ?_) (fun c_62 => ?_)
          · -- 62 t
            refine lv_iconst (v := 0) hx hb dX2_unfold_77 (by decide) ?_
            exact hret 78 ls _ _ (0, im9, md9) 0 _ dX2_unfold_78 rfl rfl rfl (by rw [← hy, z_unfN, if_neg (by omega), if_pos (by omega), if_pos c_62]) hP hS
          · -- 62 f
            refine lv_aload_n hx hb dX2_unfold_65 rfl (lv_at hl 4 rfl) ?_
            refine lv_aload_n hx hb dX2_unfold_66 rfl (lv_at hl 5 rfl) ?_
            refine lv_iload hx hb dX2_unfold_67 (lv_at hl 2 rfl) ?_
            refine lv_iload hx hb dX2_unfold_69 (lv_at hl 1 rfl) ?_
            refine zVW (ws' := fun u => wPF cI h q x y u.2.1 u.2.2 f p a st n k) (As := [.ref x, .int (nI ((448 + i) + 1)), .int (nI ((zb f (448 + i)) + 1))]) (rest := []) ⟨hx, hb, hml, hown, hts⟩ (k_X2_take l D cI h q x y im9 md9 f p a st n k ((448 + i) + 1) ((zb f (448 + i)) + 1) (by omega) (by omega) (by omega)) (cwV 3 hts gX2_unfold_X2_take rfl rfl rfl (by decide +kernel) ⟨Nat.le_of_ble_eq_true rfl, Nat.le_of_ble_eq_true rfl⟩) hP hK hN hD hS hA [0, 1, 2, 3] [] [] rfl (by decide) rfl (fun _ => rfl) (fun _ => rfl) (fun _ => rfl) rfl (va_recv hK hP (ci := 2) (q0 := 0) rfl rfl) rfl hl.1 rfl (Nat.le_of_ble_eq_true rfl) dX2_unfold_71 ⟨Nat.zero_le _, Nat.zero_le _⟩ (fun u_71 H locs hu_71 hP hD hS => ?_)
            obtain ⟨res_71, im_71, md_71⟩ := u_71
            have hP : va_P D vwCl (wPF cI h q x y im_71 md_71 f p a st n k) _ := hP
            have hD : va_D A (wPF cI h q x y im_71 md_71 f p a st n k) := hD
            refine W.eq (g2 := F0 m 74 ls [.int res_71]) rfl ?_
            refine lv_if_ne (tgt := 79) hx hb dX2_unfold_74 (by decide) (fun c_74 => ?_) (fun c_74 => ?_)
            · -- 74 t
              refine lv_goto (tgt := 122) hx hb dX2_unfold_79 (by decide) ?_
              refine lv_goto (tgt := 8) hx hb dX2_unfold_122 (by decide) ?_
              exact ih_8 d (i + (1 + ((zb f (448 + i)) + 1))) im_71 md_71 _ _ _ (by omega) (by omega) (by omega) (z_take_le hu_71 (by omega)) (by rw [← hy, z_unfN, if_neg (by omega), if_pos (by omega), if_neg (Nat.not_lt_of_le c_62), ← hu_71]; simp only [if_neg c_74]) (by omega) hP hD hS (lv_sub hl [4, 5, 6, 7, 8, 0] rfl)
            · -- 74 f
              refine lv_iconst (v := 0) hx hb dX2_unfold_77 (by decide) ?_
              exact hret 78 ls _ _ (0, im_71, md_71) 0 _ dX2_unfold_78 rfl rfl rfl (by rw [← hy, z_unfN, if_neg (by omega), if_pos (by omega), if_neg (Nat.not_lt_of_le c_62), ← hu_71]; simp only [if_pos c_74]) hP hS
  exact lp_8 _ (pn + 1) 0 im 0 _ _ _ (by omega) (by omega) (by omega) (by omega) rfl (Nat.lt_succ_self _) hP hD hS (lv_sub hl [1, 2, 3, 4, 5, 0] rfl)
