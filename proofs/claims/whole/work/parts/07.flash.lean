abbrev rm_X5_byteOfWord : Room := { frames := 0, cells := 0, slots := 0, locals := 0 }
set_option maxHeartbeats 4000000 in
set_option maxRecDepth 100000 in
theorem k_X5_byteOfWord (l : Launch) (D : va_G) (cI : ClassId)   (w : Int32) (i : Int32)  : zMR l D cI yX5_byteOfWord wsX5_byteOfWord rm_X5_byteOfWord [.int w, .int i] (w0 cI) (.int (z_bow w i)) := by
  refine zEntR (cc := cX5_byteOfWord) (maxL := 2) (ret := (some .int)) (own := RX5) (lvs := [(0, .int w), (1, .int i)]) (by decide) rfl rfl rfl rfl (Nat.le_of_ble_eq_true rfl) rfl ?_
  intro p0 e s m args below meth c Q ls hx hb hml hts hown hP hK hN hl hret hretA
  refine lv_iload_n hx hb dX5_byteOfWord_0 rfl (lv_at hl 0 rfl) ?_
  refine lv_bipush (v := 24) hx hb dX5_byteOfWord_1 (by decide) ?_
  refine lv_bipush (v := 8) hx hb dX5_byteOfWord_3 (by decide) ?_
  refine lv_iload_n hx hb dX5_byteOfWord_5 rfl (lv_at hl 1 rfl) ?_
  refine lv_imul hx hb dX5_byteOfWord_6 ?_
  refine lv_isub hx hb dX5_byteOfWord_7 ?_
  refine lv_iushr (v := zushr w (24 - (8 * i))) hx hb dX5_byteOfWord_8 rfl ?_
  refine lv_sipush (v := 255) hx hb dX5_byteOfWord_9 (by decide) ?_
  refine lv_iand hx hb dX5_byteOfWord_12 ?_
  exact hret 13 ls ((zushr w (24 - (8 * i))) &&& 255) _ dX5_byteOfWord_13 rfl rfl (congrArg Value.int (by rfl))
abbrev rm_X5_digestByte : Room := { frames := 0, cells := 0, slots := 0, locals := 0 }
set_option maxRecDepth 20000 in
theorem qX5_digestByte_1 : (Cond.constant RX5 293 (16777619) : Cond) ∈ wsX5_digestByte := List.mem_of_getElem? (i := 1) rfl
set_option maxHeartbeats 4000000 in
set_option maxRecDepth 100000 in
theorem k_X5_digestByte (l : Launch) (D : va_G) (cI : ClassId)   (x : Int32) (b : Int32)  : zMR l D cI yX5_digestByte wsX5_digestByte rm_X5_digestByte [.int x, .int b] (w0 cI) (.int (z_digB x b)) := by
  refine zEntR (cc := cX5_digestByte) (maxL := 3) (ret := (some .int)) (own := RX5) (lvs := [(0, .int x), (1, .int b)]) (by decide) rfl rfl rfl rfl (Nat.le_of_ble_eq_true rfl) rfl ?_
  intro p0 e s m args below meth c Q ls hx hb hml hts hown hP hK hN hl hret hretA
  refine lv_iload_n hx hb dX5_digestByte_0 rfl (lv_at hl 0 rfl) ?_
  refine lv_iload_n hx hb dX5_digestByte_1 rfl (lv_at hl 1 rfl) ?_
  refine lv_ixor hx hb dX5_digestByte_2 ?_
  refine lv_ldcw (v := 16777619) hx hb hown (hts _ qX5_digestByte_1) dX5_digestByte_3 ?_
  refine lv_imul hx hb dX5_digestByte_6 ?_
  refine lv_istore_n (lv' := [(2, .int ((x ^^^ b) * 16777619)), (0, .int x), (1, .int b)]) hx hb dX5_digestByte_7 rfl hl (by decide) rfl (fun ls hl => ?_)
  refine lv_iload_n hx hb dX5_digestByte_8 rfl (lv_at hl 0 rfl) ?_
  refine lv_bipush (v := 7) hx hb dX5_digestByte_9 (by decide) ?_
  refine lv_ishl hx hb dX5_digestByte_11 ?_
  refine lv_iload_n hx hb dX5_digestByte_12 rfl (lv_at hl 0 rfl) ?_
  refine lv_bipush (v := 25) hx hb dX5_digestByte_13 (by decide) ?_
  refine lv_iushr (v := zushr ((x ^^^ b) * 16777619) 25) hx hb dX5_digestByte_15 rfl ?_
  refine lv_ior hx hb dX5_digestByte_16 ?_
  refine lv_bipush (v := 97) hx hb dX5_digestByte_17 (by decide) ?_
  refine lv_iadd hx hb dX5_digestByte_19 ?_
  exact hret 20 ls (((((x ^^^ b) * 16777619) <<< (7 &&& 31)) ||| (zushr ((x ^^^ b) * 16777619) 25)) + 97) _ dX5_digestByte_20 rfl rfl (congrArg Value.int (by rfl))
abbrev rm_X5_isSequence : Room := { frames := 0, cells := 0, slots := 0, locals := 0 }
set_option maxHeartbeats 4000000 in
set_option maxRecDepth 100000 in
theorem k_X5_isSequence (l : Launch) (D : va_G) (cI : ClassId)   (x : Int32)  : zMR l D cI yX5_isSequence wsX5_isSequence rm_X5_isSequence [.int x] (w0 cI) (.int (z_isSeq x)) := by
  refine zEntR (cc := cX5_isSequence) (maxL := 1) (ret := (some .boolean)) (own := RX5) (lvs := [(0, .int x)]) (by decide) rfl rfl rfl rfl (Nat.le_of_ble_eq_true rfl) rfl ?_
  intro p0 e s m args below meth c Q ls hx hb hml hts hown hP hK hN hl hret hretA
  refine lv_iload_n hx hb dX5_isSequence_0 rfl (lv_at hl 0 rfl) ?_
  refine lv_iconst (v := 1) hx hb dX5_isSequence_1 (by decide) ?_
  refine lv_icmp_lt (tgt := 16) hx hb dX5_isSequence_2 (by decide) (fun c_2 => ?_) (fun c_2 => ?_)
  · -- 2 t
    refine lv_iconst (v := 0) hx hb dX5_isSequence_16 (by decide) ?_
    exact hret 17 ls 0 _ dX5_isSequence_17 rfl rfl (congrArg Value.int (by simp only [z_isSeq, if_pos c_2]))
  · -- 2 f
    refine lv_iload_n hx hb dX5_isSequence_5 rfl (lv_at hl 0 rfl) ?_
    refine lv_sipush (v := 200) hx hb dX5_isSequence_6 (by decide) ?_
    refine lv_icmp_gt (tgt := 16) hx hb dX5_isSequence_9 (by decide) (fun c_9 => ?_) (fun c_9 => ?_)
    · -- 9 t
      refine lv_iconst (v := 0) hx hb dX5_isSequence_16 (by decide) ?_
      exact hret 17 ls 0 _ dX5_isSequence_17 rfl rfl (congrArg Value.int (by simp only [z_isSeq, if_neg c_2, if_pos c_9]))
    · -- 9 f
      refine lv_iconst (v := 1) hx hb dX5_isSequence_12 (by decide) ?_
      refine lv_goto (tgt := 17) hx hb dX5_isSequence_13 (by decide) ?_
      exact hret 17 ls 1 _ dX5_isSequence_17 rfl rfl (congrArg Value.int (by simp only [z_isSeq, if_neg c_2, if_neg c_9]))
abbrev rm_X5_isLength : Room := { frames := 0, cells := 0, slots := 0, locals := 0 }
set_option maxHeartbeats 4000000 in
set_option maxRecDepth 100000 in
theorem k_X5_isLength (l : Launch) (D : va_G) (cI : ClassId)   (x : Int32)  : zMR l D cI yX5_isLength wsX5_isLength rm_X5_isLength [.int x] (w0 cI) (.int (z_isLen x)) := by
  refine zEntR (cc := cX5_isLength) (maxL := 1) (ret := (some .boolean)) (own := RX5) (lvs := [(0, .int x)]) (by decide) rfl rfl rfl rfl (Nat.le_of_ble_eq_true rfl) rfl ?_
  intro p0 e s m args below meth c Q ls hx hb hml hts hown hP hK hN hl hret hretA
  refine lv_iload_n hx hb dX5_isLength_0 rfl (lv_at hl 0 rfl) ?_
  refine lv_iconst (v := 1) hx hb dX5_isLength_1 (by decide) ?_
  refine lv_icmp_lt (tgt := 16) hx hb dX5_isLength_2 (by decide) (fun c_2 => ?_) (fun c_2 => ?_)
  · -- 2 t
    refine lv_iconst (v := 0) hx hb dX5_isLength_16 (by decide) ?_
    exact hret 17 ls 0 _ dX5_isLength_17 rfl rfl (congrArg Value.int (by simp only [z_isLen, if_pos c_2]))
  · -- 2 f
    refine lv_iload_n hx hb dX5_isLength_5 rfl (lv_at hl 0 rfl) ?_
    refine lv_sipush (v := 192) hx hb dX5_isLength_6 (by decide) ?_
    refine lv_icmp_gt (tgt := 16) hx hb dX5_isLength_9 (by decide) (fun c_9 => ?_) (fun c_9 => ?_)
    · -- 9 t
      refine lv_iconst (v := 0) hx hb dX5_isLength_16 (by decide) ?_
      exact hret 17 ls 0 _ dX5_isLength_17 rfl rfl (congrArg Value.int (by simp only [z_isLen, if_neg c_2, if_pos c_9]))
    · -- 9 f
      refine lv_iconst (v := 1) hx hb dX5_isLength_12 (by decide) ?_
      refine lv_goto (tgt := 17) hx hb dX5_isLength_13 (by decide) ?_
      exact hret 17 ls 1 _ dX5_isLength_17 rfl rfl (congrArg Value.int (by simp only [z_isLen, if_neg c_2, if_neg c_9]))
abbrev rm_J6_bitCount_0f7a4 : Room := { frames := 0, cells := 0, slots := 0, locals := 0 }
set_option maxRecDepth 20000 in
theorem qJ6_bitCount_0f7a4_1 : (Cond.constant RJ6 265 (1431655765) : Cond) ∈ wsJ6_bitCount_0f7a4 := List.mem_of_getElem? (i := 1) rfl
set_option maxRecDepth 20000 in
theorem qJ6_bitCount_0f7a4_2 : (Cond.constant RJ6 266 (858993459) : Cond) ∈ wsJ6_bitCount_0f7a4 := List.mem_of_getElem? (i := 2) rfl
set_option maxRecDepth 20000 in
theorem qJ6_bitCount_0f7a4_3 : (Cond.constant RJ6 267 (252645135) : Cond) ∈ wsJ6_bitCount_0f7a4 := List.mem_of_getElem? (i := 3) rfl
set_option maxHeartbeats 4000000 in
set_option maxRecDepth 100000 in
theorem k_J6_bitCount_0f7a4 (l : Launch) (D : va_G) (cI : ClassId)   (x : Int32)  : zMR l D cI yJ6_bitCount_0f7a4 wsJ6_bitCount_0f7a4 rm_J6_bitCount_0f7a4 [.int x] (w0 cI) (.int (z_bc x)) := by
  refine zEntR (cc := cJ6_bitCount_0f7a4) (maxL := 1) (ret := (some .int)) (own := RJ6) (lvs := [(0, .int x)]) (by decide) rfl rfl rfl rfl (Nat.le_of_ble_eq_true rfl) rfl ?_
  intro p0 e s m args below meth c Q ls hx hb hml hts hown hP hK hN hl hret hretA
  refine lv_iload_n hx hb dJ6_bitCount_0f7a4_0 rfl (lv_at hl 0 rfl) ?_
  refine lv_iload_n hx hb dJ6_bitCount_0f7a4_1 rfl (lv_at hl 0 rfl) ?_
  refine lv_iconst (v := 1) hx hb dJ6_bitCount_0f7a4_2 (by decide) ?_
  refine lv_iushr (v := zushr x 1) hx hb dJ6_bitCount_0f7a4_3 rfl ?_
  refine lv_ldcw (v := 1431655765) hx hb hown (hts _ qJ6_bitCount_0f7a4_1) dJ6_bitCount_0f7a4_4 ?_
  refine lv_iand hx hb dJ6_bitCount_0f7a4_7 ?_
  refine lv_isub hx hb dJ6_bitCount_0f7a4_8 ?_
  refine lv_istore_n (lv' := [(0, .int (x - ((zushr x 1) &&& 1431655765)))]) hx hb dJ6_bitCount_0f7a4_9 rfl hl (by decide) rfl (fun ls hl => ?_)
  refine lv_iload_n hx hb dJ6_bitCount_0f7a4_10 rfl (lv_at hl 0 rfl) ?_
  refine lv_ldcw (v := 858993459) hx hb hown (hts _ qJ6_bitCount_0f7a4_2) dJ6_bitCount_0f7a4_11 ?_
  refine lv_iand hx hb dJ6_bitCount_0f7a4_14 ?_
  refine lv_iload_n hx hb dJ6_bitCount_0f7a4_15 rfl (lv_at hl 0 rfl) ?_
  refine lv_iconst (v := 2) hx hb dJ6_bitCount_0f7a4_16 (by decide) ?_
  refine lv_iushr (v := zushr (x - ((zushr x 1) &&& 1431655765)) 2) hx hb dJ6_bitCount_0f7a4_17 rfl ?_
  refine lv_ldcw (v := 858993459) hx hb hown (hts _ qJ6_bitCount_0f7a4_2) dJ6_bitCount_0f7a4_18 ?_
  refine lv_iand hx hb dJ6_bitCount_0f7a4_21 ?_
  refine lv_iadd hx hb dJ6_bitCount_0f7a4_22 ?_
  refine lv_istore_n (lv' := [(0, .int (((x - ((zushr x 1) &&& 1431655765)) &&& 858993459) + ((zushr (x - ((zushr x 1) &&& 1431655765)) 2) &&& 858993459)))]) hx hb dJ6_bitCount_0f7a4_23 rfl hl (by decide) rfl (fun ls hl => ?_)
  refine lv_iload_n hx hb dJ6_bitCount_0f7a4_24 rfl (lv_at hl 0 rfl) ?_
  refine lv_iload_n hx hb dJ6_bitCount_0f7a4_25 rfl (lv_at hl 0 rfl) ?_
  refine lv_iconst (v := 4) hx hb dJ6_bitCount_0f7a4_26 (by decide) ?_
  refine lv_iushr (v := zushr (((x - ((zushr x 1) &&& 1431655765)) &&& 858993459) + ((zushr (x - ((zushr x 1) &&& 1431655765)) 2) &&& 858993459)) 4) hx hb dJ6_bitCount_0f7a4_27 rfl ?_
  refine lv_iadd hx hb dJ6_bitCount_0f7a4_28 ?_
  refine lv_ldcw (v := 252645135) hx hb hown (hts _ qJ6_bitCount_0f7a4_3) dJ6_bitCount_0f7a4_29 ?_
  refine lv_iand hx hb dJ6_bitCount_0f7a4_32 ?_
  refine lv_istore_n (lv' := [(0, .int (((((x - ((zushr x 1) &&& 1431655765)) &&& 858993459) + ((zushr (x - ((zushr x 1) &&& 1431655765)) 2) &&& 858993459)) + (zushr (((x - ((zushr x 1) &&& 1431655765)) &&& 858993459) + ((zushr (x - ((zushr x 1) &&& 1431655765)) 2) &&& 858993459)) 4)) &&& 252645135))]) hx hb dJ6_bitCount_0f7a4_33 rfl hl (by decide) rfl (fun ls hl => ?_)
  refine lv_iload_n hx hb dJ6_bitCount_0f7a4_34 rfl (lv_at hl 0 rfl) ?_
  refine lv_iload_n hx hb dJ6_bitCount_0f7a4_35 rfl (lv_at hl 0 rfl) ?_
  refine lv_bipush (v := 8) hx hb dJ6_bitCount_0f7a4_36 (by decide) ?_
  refine lv_iushr (v := zushr (((((x - ((zushr x 1) &&& 1431655765)) &&& 858993459) + ((zushr (x - ((zushr x 1) &&& 1431655765)) 2) &&& 858993459)) + (zushr (((x - ((zushr x 1) &&& 1431655765)) &&& 858993459) + ((zushr (x - ((zushr x 1) &&& 1431655765)) 2) &&& 858993459)) 4)) &&& 252645135) 8) hx hb dJ6_bitCount_0f7a4_38 rfl ?_
  refine lv_iadd hx hb dJ6_bitCount_0f7a4_39 ?_
  refine lv_istore_n (lv' := [(0, .int ((((((x - ((zushr x 1) &&& 1431655765)) &&& 858993459) + ((zushr (x - ((zushr x 1) &&& 1431655765)) 2) &&& 858993459)) + (zushr (((x - ((zushr x 1) &&& 1431655765)) &&& 858993459) + ((zushr (x - ((zushr x 1) &&& 1431655765)) 2) &&& 858993459)) 4)) &&& 252645135) + (zushr (((((x - ((zushr x 1) &&& 1431655765)) &&& 858993459) + ((zushr (x - ((zushr x 1) &&& 1431655765)) 2) &&& 858993459)) + (zushr (((x - ((zushr x 1) &&& 1431655765)) &&& 858993459) + ((zushr (x - ((zushr x 1) &&& 1431655765)) 2) &&& 858993459)) 4)) &&& 252645135) 8)))]) hx hb dJ6_bitCount_0f7a4_40 rfl hl (by decide) rfl (fun ls hl => ?_)
  refine lv_iload_n hx hb dJ6_bitCount_0f7a4_41 rfl (lv_at hl 0 rfl) ?_
  refine lv_iload_n hx hb dJ6_bitCount_0f7a4_42 rfl (lv_at hl 0 rfl) ?_
  refine lv_bipush (v := 16) hx hb dJ6_bitCount_0f7a4_43 (by decide) ?_
  refine lv_iushr (v := zushr ((((((x - ((zushr x 1) &&& 1431655765)) &&& 858993459) + ((zushr (x - ((zushr x 1) &&& 1431655765)) 2) &&& 858993459)) + (zushr (((x - ((zushr x 1) &&& 1431655765)) &&& 858993459) + ((zushr (x - ((zushr x 1) &&& 1431655765)) 2) &&& 858993459)) 4)) &&& 252645135) + (zushr (((((x - ((zushr x 1) &&& 1431655765)) &&& 858993459) + ((zushr (x - ((zushr x 1) &&& 1431655765)) 2) &&& 858993459)) + (zushr (((x - ((zushr x 1) &&& 1431655765)) &&& 858993459) + ((zushr (x - ((zushr x 1) &&& 1431655765)) 2) &&& 858993459)) 4)) &&& 252645135) 8)) 16) hx hb dJ6_bitCount_0f7a4_45 rfl ?_
  refine lv_iadd hx hb dJ6_bitCount_0f7a4_46 ?_
  refine lv_istore_n (lv' := [(0, .int (((((((x - ((zushr x 1) &&& 1431655765)) &&& 858993459) + ((zushr (x - ((zushr x 1) &&& 1431655765)) 2) &&& 858993459)) + (zushr (((x - ((zushr x 1) &&& 1431655765)) &&& 858993459) + ((zushr (x - ((zushr x 1) &&& 1431655765)) 2) &&& 858993459)) 4)) &&& 252645135) + (zushr (((((x - ((zushr x 1) &&& 1431655765)) &&& 858993459) + ((zushr (x - ((zushr x 1) &&& 1431655765)) 2) &&& 858993459)) + (zushr (((x - ((zushr x 1) &&& 1431655765)) &&& 858993459) + ((zushr (x - ((zushr x 1) &&& 1431655765)) 2) &&& 858993459)) 4)) &&& 252645135) 8)) + (zushr ((((((x - ((zushr x 1) &&& 1431655765)) &&& 858993459) + ((zushr (x - ((zushr x 1) &&& 1431655765)) 2) &&& 858993459)) + (zushr (((x - ((zushr x 1) &&& 1431655765)) &&& 858993459) + ((zushr (x - ((zushr x 1) &&& 1431655765)) 2) &&& 858993459)) 4)) &&& 252645135) + (zushr (((((x - ((zushr x 1) &&& 1431655765)) &&& 858993459) + ((zushr (x - ((zushr x 1) &&& 1431655765)) 2) &&& 858993459)) + (zushr (((x - ((zushr x 1) &&& 1431655765)) &&& 858993459) + ((zushr (x - ((zushr x 1) &&& 1431655765)) 2) &&& 858993459)) 4)) &&& 252645135) 8)) 16)))]) hx hb dJ6_bitCount_0f7a4_47 rfl hl (by decide) rfl (fun ls hl => ?_)
  refine lv_iload_n hx hb dJ6_bitCount_0f7a4_48 rfl (lv_at hl 0 rfl) ?_
  refine lv_bipush (v := 63) hx hb dJ6_bitCount_0f7a4_49 (by decide) ?_
  refine lv_iand hx hb dJ6_bitCount_0f7a4_51 ?_
  exact hret 52 ls ((((((((x - ((zushr x 1) &&& 1431655765)) &&& 858993459) + ((zushr (x - ((zushr x 1) &&& 1431655765)) 2) &&& 858993459)) + (zushr (((x - ((zushr x 1) &&& 1431655765)) &&& 858993459) + ((zushr (x - ((zushr x 1) &&& 1431655765)) 2) &&& 858993459)) 4)) &&& 252645135) + (zushr (((((x - ((zushr x 1) &&& 1431655765)) &&& 858993459) + ((zushr (x - ((zushr x 1) &&& 1431655765)) 2) &&& 858993459)) + (zushr (((x - ((zushr x 1) &&& 1431655765)) &&& 858993459) + ((zushr (x - ((zushr x 1) &&& 1431655765)) 2) &&& 858993459)) 4)) &&& 252645135) 8)) + (zushr ((((((x - ((zushr x 1) &&& 1431655765)) &&& 858993459) + ((zushr (x - ((zushr x 1) &&& 1431655765)) 2) &&& 858993459)) + (zushr (((x - ((zushr x 1) &&& 1431655765)) &&& 858993459) + ((zushr (x - ((zushr x 1) &&& 1431655765)) 2) &&& 858993459)) 4)) &&& 252645135) + (zushr (((((x - ((zushr x 1) &&& 1431655765)) &&& 858993459) + ((zushr (x - ((zushr x 1) &&& 1431655765)) 2) &&& 858993459)) + (zushr (((x - ((zushr x 1) &&& 1431655765)) &&& 858993459) + ((zushr (x - ((zushr x 1) &&& 1431655765)) 2) &&& 858993459)) 4)) &&& 252645135) 8)) 16)) &&& 63) _ dJ6_bitCount_0f7a4_52 rfl rfl (congrArg Value.int (by rfl))
abbrev rm_X5_digest : Room := { frames := 1, cells := 0, slots := 0, locals := 22 }
set_option maxHeartbeats 4000000 in
set_option maxRecDepth 100000 in
theorem k_X5_digest (l : Launch) (D : va_G) (cI : ClassId) (r : Nat) (row : RW) (rl : Nat) (d0 : Int32) (len : Int32) (hrl : rl < 2 ^ 31) : zMR l D cI yX5_digest wsX5_digest rm_X5_digest [.int d0, .ref r, .int len] (wR cI r row rl) (.int (z_dig d0 row rl len)) := by
  refine zEntR (cc := cX5_digest) (maxL := 5) (ret := (some .int)) (own := RX5) (lvs := [(0, .int d0), (1, .ref r), (2, .int len)]) (by decide) rfl rfl rfl rfl (Nat.le_of_ble_eq_true rfl) rfl ?_
  intro p0 e s m args below meth c Q ls hx hb hml hts hown hP hK hN hl hret hretA
  refine lv_iload_n hx hb dX5_digest_0 rfl (lv_at hl 0 rfl) ?_
  refine lv_istore_n (lv' := [(3, .int d0), (0, .int d0), (1, .ref r), (2, .int len)]) hx hb dX5_digest_1 rfl hl (by decide) rfl (fun ls hl => ?_)
  refine lv_iconst (v := 0) hx hb dX5_digest_2 (by decide) ?_
  refine lv_istore (lv' := [(4, .int 0), (3, .int d0), (0, .int d0), (1, .ref r), (2, .int len)]) hx hb dX5_digest_3 hl (by decide) rfl (fun ls hl => ?_)
  have lp_5 : ∀ (g_5 : Nat) (i : Nat) (ls : Array Slot), i ≤ rl → i ≤ len.toNatClampNeg → rl - i < g_5 → lv_has ls 5 [(0, .int d0), (1, .ref r), (2, .int len), (3, .int (z_rdigN d0 row i)), (4, .int (nI i))] → W p0 l e rm_X5_digest s m args below meth c s.heap [] 0 0 Q (F0 m 5 ls []) := by
    intro g_5
    induction g_5 with
    | zero => intro i ls h1 h2 h9_5; exact absurd h9_5 (Nat.not_lt_zero _)
    | succ g_5 ih_5 =>
      intro i ls h1 h2 h9_5 hl
      refine lv_iload hx hb dX5_digest_5 (lv_at hl 4 rfl) ?_
      refine lv_iload_n hx hb dX5_digest_7 rfl (lv_at hl 2 rfl) ?_
      refine z_icmp_geC (tgt := 33) hx hb dX5_digest_8 (by decide) i rfl (by omega) (fun c_8 => ?_) (fun c_8 => ?_)
      · -- 8 t
        refine lv_iload_n hx hb dX5_digest_33 rfl (lv_at hl 3 rfl) ?_
        exact hret 34 ls (z_rdigN d0 row i) _ dX5_digest_34 rfl rfl (congrArg Value.int (by rw [z_dig, show min len.toNatClampNeg rl = i by omega]))
      · -- 8 f
        refine lv_iload hx hb dX5_digest_11 (lv_at hl 4 rfl) ?_
        refine lv_aload_n hx hb dX5_digest_13 rfl (lv_at hl 1 rfl) ?_
        refine va_alen (v := nI rl) hx hb hK hP 0 0 rfl (ty := .int) rfl rfl dX5_digest_14 ?_
        refine z_icmp_ge (tgt := 33) hx hb dX5_digest_15 (by decide) i rl rfl rfl (by omega) (by omega) (fun c_15 => ?_) (fun c_15 => ?_)
        · -- 15 t
          refine lv_iload_n hx hb dX5_digest_33 rfl (lv_at hl 3 rfl) ?_
          exact hret 34 ls (z_rdigN d0 row i) _ dX5_digest_34 rfl rfl (congrArg Value.int (by rw [z_dig, show min len.toNatClampNeg rl = i by omega]))
        · -- 15 f
          refine lv_iload_n hx hb dX5_digest_18 rfl (lv_at hl 3 rfl) ?_
          refine lv_aload_n hx hb dX5_digest_19 rfl (lv_at hl 1 rfl) ?_
          refine lv_iload hx hb dX5_digest_20 (lv_at hl 4 rfl) ?_
          refine z_iald hx hb hK hP 0 0 rfl rfl i rfl (by omega) (by omega) dX5_digest_22 ?_
          refine zSR (As := [.int (z_rdigN d0 row i), .int (row i)]) (rest := []) ⟨hx, hb, hml, hown, hts⟩ (k_X5_digestByte l D cI (z_rdigN d0 row i) (row i)) (va_cwS 2 hts gX5_digest_X5_digestByte rfl rfl rfl (by decide +kernel) ⟨Nat.le_of_ble_eq_true rfl, Nat.le_of_ble_eq_true rfl⟩) hP hK hN [] rfl rfl hl.1 rfl (Nat.le_of_ble_eq_true rfl) dX5_digest_23 ⟨Nat.zero_le _, Nat.zero_le _⟩ ?_
          refine lv_istore_n (lv' := [(3, .int (z_digB (z_rdigN d0 row i) (row i))), (0, .int d0), (1, .ref r), (2, .int len), (4, .int (nI i))]) hx hb dX5_digest_26 rfl hl (by decide) rfl (fun ls hl => ?_)
          refine lv_iinc (v := (nI (i + 1))) (lv' := [(4, .int (nI (i + 1))), (3, .int (z_digB (z_rdigN d0 row i) (row i))), (0, .int d0), (1, .ref r), (2, .int len)]) hx hb dX5_digest_27 hl (k := 4) rfl (z_inc _ _ rfl) (by decide) rfl (fun ls hl => ?_)
          refine lv_goto (tgt := 5) hx hb dX5_digest_30 (by decide) ?_
          exact ih_5 (i + 1) _ (by omega) (by omega) (by omega) (lv_sub hl [2, 3, 4, 1, 0] rfl)
  exact lp_5 _ 0 _ (Nat.zero_le _) (Nat.zero_le _) (Nat.lt_succ_self _) (lv_sub hl [2, 3, 4, 1, 0] rfl)
abbrev rm_X0_at : Room := { frames := 0, cells := 0, slots := 0, locals := 0 }
set_option maxRecDepth 20000 in
theorem qX0_at_1 : (Cond.fieldLink RX0 11 "FlashBoot$Flash" "bytes" "[I" : Cond) ∈ wsX0_at := List.mem_of_getElem? (i := 1) rfl
set_option maxRecDepth 20000 in
theorem iX0_at_X0 : ∀ w ∈ wsX00, w ∈ wsX0_at := by decide +kernel
set_option maxHeartbeats 4000000 in
set_option maxRecDepth 100000 in
theorem k_X0_at (l : Launch) (D : va_G) (cI : ClassId) (h q : Nat) (f : RW) (p : Int32) (a : Int32) (st : Int32) (n : Int32) (k : Int32) (i : Int32)  : zMR l D cI yX0_at wsX0_at rm_X0_at [.ref h, .int i] (wF cI h q f p a st n k) (.int (z_at f i)) := by
  refine zEntR (cc := cX0_at) (maxL := 2) (ret := (some .int)) (own := RX0) (lvs := [(0, .ref h), (1, .int i)]) (by decide) rfl rfl rfl rfl (Nat.le_of_ble_eq_true rfl) rfl ?_
  intro p0 e s m args below meth c Q ls hx hb hml hts hown hP hK hN hl hret hretA
  refine lv_iload_n hx hb dX0_at_0 rfl (lv_at hl 1 rfl) ?_
  refine lv_if_lt (tgt := 20) hx hb dX0_at_1 (by decide) (fun c_1 => ?_) (fun c_1 => ?_)
  · -- 1 t
    refine lv_iconst (v := (-1)) hx hb dX0_at_20 (by decide) ?_
    exact hret 21 ls (-1) _ dX0_at_21 rfl rfl (congrArg Value.int (by simp only [z_at, if_pos c_1]))
  · -- 1 f
    refine lv_iload_n hx hb dX0_at_4 rfl (lv_at hl 1 rfl) ?_
    refine lv_sipush (v := 768) hx hb dX0_at_5 (by decide) ?_
    refine lv_icmp_ge (tgt := 20) hx hb dX0_at_8 (by decide) (fun c_8 => ?_) (fun c_8 => ?_)
    · -- 8 t
      refine lv_iconst (v := (-1)) hx hb dX0_at_20 (by decide) ?_
      exact hret 21 ls (-1) _ dX0_at_21 rfl rfl (congrArg Value.int (by simp only [z_at, if_neg c_1, if_pos c_8]))
    · -- 8 f
      refine lv_aload_n hx hb dX0_at_11 rfl (lv_at hl 0 rfl) ?_
      refine va_get (D := D) (ci := 0) (v := .ref q) (C := RX0) (T := TX0) (N := 6) hx hb hts iX0_at_X0 hown hK hP 0 rfl rfl 0 (by decide) (hts _ qX0_at_1) (fun _ h9 => h9) rfl dX0_at_12 ?_
      refine lv_iload_n hx hb dX0_at_15 rfl (lv_at hl 1 rfl) ?_
      refine va_iald hx hb hK hP 1 0 rfl rfl (z_vp (m := 768) rfl (by decide) c_1 (Int32.not_le.mp c_8)) dX0_at_16 ?_
      refine lv_goto (tgt := 21) hx hb dX0_at_17 (by decide) ?_
      exact hret 21 ls (f (i).toNatClampNeg) _ dX0_at_21 rfl rfl (congrArg Value.int (by simp only [z_at, if_neg c_1, if_neg c_8]))
abbrev rm_X0_tearNextAct : Room := { frames := 0, cells := 0, slots := 0, locals := 0 }
set_option maxRecDepth 20000 in
theorem qX0_tearNextAct_1 : (Cond.fieldLink RX0 19 "FlashBoot$Flash" "actsDone" "I" : Cond) ∈ wsX0_tearNextAct := List.mem_of_getElem? (i := 1) rfl
set_option maxRecDepth 20000 in
theorem iX0_tearNextAct_X0 : ∀ w ∈ wsX00, w ∈ wsX0_tearNextAct := by decide +kernel
set_option maxRecDepth 20000 in
theorem qX0_tearNextAct_2 : (Cond.fieldLink RX0 23 "FlashBoot$Flash" "crashIsSet" "Z" : Cond) ∈ wsX0_tearNextAct := List.mem_of_getElem? (i := 2) rfl
set_option maxRecDepth 20000 in
theorem qX0_tearNextAct_3 : (Cond.fieldLink RX0 26 "FlashBoot$Flash" "actsToCrash" "I" : Cond) ∈ wsX0_tearNextAct := List.mem_of_getElem? (i := 3) rfl
set_option maxRecDepth 20000 in
theorem qX0_tearNextAct_4 : (Cond.fieldLink RX0 15 "FlashBoot$Flash" "power" "Z" : Cond) ∈ wsX0_tearNextAct := List.mem_of_getElem? (i := 4) rfl
set_option maxHeartbeats 4000000 in
set_option maxRecDepth 100000 in
theorem k_X0_tearNextAct (l : Launch) (D : va_G) (cI : ClassId) (h q : Nat) (f : RW) (p : Int32) (a : Int32) (st : Int32) (n : Int32) (k : Int32)   : zMW (S := Int32 × RW × Int32 × Int32 × Int32 × Int32 × Int32) l D cI yX0_tearNextAct wsX0_tearNextAct rm_X0_tearNextAct [.ref h] (wF cI h q f p a st n k) (z_tear (f, p, a, st, n, k)) (fun u => some (.int u.1)) (fun u => wF cI h q u.2.1 u.2.2.1 u.2.2.2.1 u.2.2.2.2.1 u.2.2.2.2.2.1 u.2.2.2.2.2.2) := by
  refine zEntW (cc := cX0_tearNextAct) (maxL := 1) (ret := (some .boolean)) (own := RX0) (lvs := [(0, .ref h)]) (by decide) rfl rfl (Nat.le_of_ble_eq_true rfl) rfl ?_
  intro p0 e s m args below meth c Q ls A hx hb hml hts hown hP hK hN hD hS hA hl hret hretV
  refine lv_aload_n hx hb dX0_tearNextAct_0 rfl (lv_at hl 0 rfl) ?_
  refine lv_dup hx hb dX0_tearNextAct_1 rfl ?_
  refine va_get (D := D) (ci := 0) (v := .int a) (C := RX0) (T := TX0) (N := 6) hx hb hts iX0_tearNextAct_X0 hown hK hP 0 rfl rfl 2 (by decide) (hts _ qX0_tearNextAct_1) (fun _ h9 => h9) rfl dX0_tearNextAct_2 ?_
  refine lv_iconst (v := 1) hx hb dX0_tearNextAct_5 (by decide) ?_
  refine lv_iadd hx hb dX0_tearNextAct_6 ?_
  refine va_put (D := D) (ci := 0) (v := .int (a + 1)) (ty := .int) (C := RX0) (T := TX0) (N := 6) hx hb hts iX0_tearNextAct_X0 tyX0 tyX0_ok nmX0 hown hK hP hD hS 0 rfl rfl 2 (by decide) (hts _ qX0_tearNextAct_1) (fun _ h9 => h9) rfl (by decide +kernel) rfl rfl (Nat.le_of_ble_eq_true rfl) dX0_tearNextAct_7 (fun H locs hP hD hS => ?_)
  have hP : va_P D vwCl (wF cI h q f p (a + 1) st n k) _ := hP
  have hD : va_D A (wF cI h q f p (a + 1) st n k) := hD
  refine lv_aload_n hx hb dX0_tearNextAct_10 rfl (lv_at hl 0 rfl) ?_
  refine va_get (D := D) (ci := 0) (v := .int st) (C := RX0) (T := TX0) (N := 6) hx hb hts iX0_tearNextAct_X0 hown hK hP 0 rfl rfl 3 (by decide) (hts _ qX0_tearNextAct_2) (fun _ h9 => h9) rfl dX0_tearNextAct_11 ?_
  refine lv_if_ne (tgt := 19) hx hb dX0_tearNextAct_14 (by decide) (fun c_14 => ?_) (fun c_14 => ?_)
  · -- 14 t
    refine lv_aload_n hx hb dX0_tearNextAct_19 rfl (lv_at hl 0 rfl) ?_
    refine va_get (D := D) (ci := 0) (v := .int n) (C := RX0) (T := TX0) (N := 6) hx hb hts iX0_tearNextAct_X0 hown hK hP 0 rfl rfl 4 (by decide) (hts _ qX0_tearNextAct_3) (fun _ h9 => h9) rfl dX0_tearNextAct_20 ?_
    refine lv_if_le (tgt := 38) hx hb dX0_tearNextAct_23 (by decide) (fun c_23 => ?_) (fun c_23 => ?_)
    · -- 23 t
      refine lv_aload_n hx hb dX0_tearNextAct_38 rfl (lv_at hl 0 rfl) ?_
      refine lv_iconst (v := 0) hx hb dX0_tearNextAct_39 (by decide) ?_
      refine va_put (D := D) (ci := 0) (v := .int 0) (ty := .boolean) (C := RX0) (T := TX0) (N := 6) hx hb hts iX0_tearNextAct_X0 tyX0 tyX0_ok nmX0 hown hK hP hD hS 0 rfl rfl 3 (by decide) (hts _ qX0_tearNextAct_2) (fun _ h9 => h9) rfl (by decide +kernel) rfl rfl (Nat.le_of_ble_eq_true rfl) dX0_tearNextAct_40 (fun H locs hP hD hS => ?_)
      have hP : va_P D vwCl (wF cI h q f p (a + 1) 0 n k) _ := hP
      have hD : va_D A (wF cI h q f p (a + 1) 0 n k) := hD
      refine lv_aload_n hx hb dX0_tearNextAct_43 rfl (lv_at hl 0 rfl) ?_
      refine lv_iconst (v := 0) hx hb dX0_tearNextAct_44 (by decide) ?_
      refine va_put (D := D) (ci := 0) (v := .int 0) (ty := .boolean) (C := RX0) (T := TX0) (N := 6) hx hb hts iX0_tearNextAct_X0 tyX0 tyX0_ok nmX0 hown hK hP hD hS 0 rfl rfl 1 (by decide) (hts _ qX0_tearNextAct_4) (fun _ h9 => h9) rfl (by decide +kernel) rfl rfl (Nat.le_of_ble_eq_true rfl) dX0_tearNextAct_45 (fun H locs hP hD hS => ?_)
      have hP : va_P D vwCl (wF cI h q f 0 (a + 1) 0 n k) _ := hP
      have hD : va_D A (wF cI h q f 0 (a + 1) 0 n k) := hD
      refine lv_iconst (v := 1) hx hb dX0_tearNextAct_48 (by decide) ?_
      exact hret 49 ls _ _ (1, f, 0, a + 1, 0, n, k) 1 _ dX0_tearNextAct_49 rfl rfl rfl (by simp only [z_tear, if_neg c_14, if_pos c_23]) hP hS
    · -- 23 f
      refine lv_aload_n hx hb dX0_tearNextAct_26 rfl (lv_at hl 0 rfl) ?_
      refine lv_dup hx hb dX0_tearNextAct_27 rfl ?_
      refine va_get (D := D) (ci := 0) (v := .int n) (C := RX0) (T := TX0) (N := 6) hx hb hts iX0_tearNextAct_X0 hown hK hP 0 rfl rfl 4 (by decide) (hts _ qX0_tearNextAct_3) (fun _ h9 => h9) rfl dX0_tearNextAct_28 ?_
      refine lv_iconst (v := 1) hx hb dX0_tearNextAct_31 (by decide) ?_
      refine lv_isub hx hb dX0_tearNextAct_32 ?_
      refine va_put (D := D) (ci := 0) (v := .int (n - 1)) (ty := .int) (C := RX0) (T := TX0) (N := 6) hx hb hts iX0_tearNextAct_X0 tyX0 tyX0_ok nmX0 hown hK hP hD hS 0 rfl rfl 4 (by decide) (hts _ qX0_tearNextAct_3) (fun _ h9 => h9) rfl (by decide +kernel) rfl rfl (Nat.le_of_ble_eq_true rfl) dX0_tearNextAct_33 (fun H locs hP hD hS => ?_)
      have hP : va_P D vwCl (wF cI h q f p (a + 1) st (n - 1) k) _ := hP
      have hD : va_D A (wF cI h q f p (a + 1) st (n - 1) k) := hD
      refine lv_iconst (v := 0) hx hb dX0_tearNextAct_36 (by decide) ?_
      exact hret 37 ls _ _ (0, f, p, a + 1, st, n - 1, k) 0 _ dX0_tearNextAct_37 rfl rfl rfl (by simp only [z_tear, if_neg c_14, if_neg c_23]) hP hS
  · -- 14 f
    refine lv_iconst (v := 0) hx hb dX0_tearNextAct_17 (by decide) ?_
    exact hret 18 ls _ _ (0, f, p, a + 1, st, n, k) 0 _ dX0_tearNextAct_18 rfl rfl rfl (by simp only [z_tear, if_pos c_14]) hP hS
abbrev rm_X0_setCrash : Room := { frames := 0, cells := 0, slots := 0, locals := 0 }
set_option maxRecDepth 20000 in
theorem qX0_setCrash_1 : (Cond.fieldLink RX0 23 "FlashBoot$Flash" "crashIsSet" "Z" : Cond) ∈ wsX0_setCrash := List.mem_of_getElem? (i := 1) rfl
set_option maxRecDepth 20000 in
theorem iX0_setCrash_X0 : ∀ w ∈ wsX00, w ∈ wsX0_setCrash := by decide +kernel
set_option maxRecDepth 20000 in
theorem qX0_setCrash_2 : (Cond.fieldLink RX0 26 "FlashBoot$Flash" "actsToCrash" "I" : Cond) ∈ wsX0_setCrash := List.mem_of_getElem? (i := 2) rfl
set_option maxRecDepth 20000 in
theorem qX0_setCrash_3 : (Cond.fieldLink RX0 29 "FlashBoot$Flash" "crashMask" "I" : Cond) ∈ wsX0_setCrash := List.mem_of_getElem? (i := 3) rfl
set_option maxHeartbeats 4000000 in
set_option maxRecDepth 100000 in
theorem k_X0_setCrash (l : Launch) (D : va_G) (cI : ClassId) (h q : Nat) (f : RW) (p : Int32) (a : Int32) (st : Int32) (n : Int32) (k : Int32) (x : Int32) (y : Int32)  : zMW (S := RW × Int32 × Int32 × Int32 × Int32 × Int32) l D cI yX0_setCrash wsX0_setCrash rm_X0_setCrash [.ref h, .int x, .int y] (wF cI h q f p a st n k) (z_set x y (f, p, a, st, n, k)) (fun _ => none) (fun u => wF cI h q u.1 u.2.1 u.2.2.1 u.2.2.2.1 u.2.2.2.2.1 u.2.2.2.2.2) := by
  refine zEntW (cc := cX0_setCrash) (maxL := 3) (ret := none) (own := RX0) (lvs := [(0, .ref h), (1, .int x), (2, .int y)]) (by decide) rfl rfl (Nat.le_of_ble_eq_true rfl) rfl ?_
  intro p0 e s m args below meth c Q ls A hx hb hml hts hown hP hK hN hD hS hA hl hret hretV
  refine lv_aload_n hx hb dX0_setCrash_0 rfl (lv_at hl 0 rfl) ?_
  refine lv_iload_n hx hb dX0_setCrash_1 rfl (lv_at hl 1 rfl) ?_
  refine lv_if_lt (tgt := 9) hx hb dX0_setCrash_2 (by decide) (fun c_2 => ?_) (fun c_2 => ?_)
  · -- 2 t
    refine lv_iconst (v := 0) hx hb dX0_setCrash_9 (by decide) ?_
    refine va_put (D := D) (ci := 0) (v := .int 0) (ty := .boolean) (C := RX0) (T := TX0) (N := 6) hx hb hts iX0_setCrash_X0 tyX0 tyX0_ok nmX0 hown hK hP hD hS 0 rfl rfl 3 (by decide) (hts _ qX0_setCrash_1) (fun _ h9 => h9) rfl (by decide +kernel) rfl rfl (Nat.le_of_ble_eq_true rfl) dX0_setCrash_10 (fun H locs hP hD hS => ?_)
    have hP : va_P D vwCl (wF cI h q f p a 0 n k) _ := hP
    have hD : va_D A (wF cI h q f p a 0 n k) := hD
    refine lv_aload_n hx hb dX0_setCrash_13 rfl (lv_at hl 0 rfl) ?_
    refine lv_iload_n hx hb dX0_setCrash_14 rfl (lv_at hl 1 rfl) ?_
    refine va_put (D := D) (ci := 0) (v := .int x) (ty := .int) (C := RX0) (T := TX0) (N := 6) hx hb hts iX0_setCrash_X0 tyX0 tyX0_ok nmX0 hown hK hP hD hS 0 rfl rfl 4 (by decide) (hts _ qX0_setCrash_2) (fun _ h9 => h9) rfl (by decide +kernel) rfl rfl (Nat.le_of_ble_eq_true rfl) dX0_setCrash_15 (fun H locs hP hD hS => ?_)
    have hP : va_P D vwCl (wF cI h q f p a 0 x k) _ := hP
    have hD : va_D A (wF cI h q f p a 0 x k) := hD
    refine lv_aload_n hx hb dX0_setCrash_18 rfl (lv_at hl 0 rfl) ?_
    refine lv_iload_n hx hb dX0_setCrash_19 rfl (lv_at hl 2 rfl) ?_
    refine va_put (D := D) (ci := 0) (v := .int y) (ty := .int) (C := RX0) (T := TX0) (N := 6) hx hb hts iX0_setCrash_X0 tyX0 tyX0_ok nmX0 hown hK hP hD hS 0 rfl rfl 5 (by decide) (hts _ qX0_setCrash_3) (fun _ h9 => h9) rfl (by decide +kernel) rfl rfl (Nat.le_of_ble_eq_true rfl) dX0_setCrash_20 (fun H locs hP hD hS => ?_)
    have hP : va_P D vwCl (wF cI h q f p a 0 x y) _ := hP
    have hD : va_D A (wF cI h q f p a 0 x y) := hD
    exact hretV 23 ls _ _ (f, p, a, 0, x, y) dX0_setCrash_23 rfl rfl (by simp only [z_set, if_pos c_2]) hP hS
  · -- 2 f
    refine lv_iconst (v := 1) hx hb dX0_setCrash_5 (by decide) ?_
    refine lv_goto (tgt := 10) hx hb dX0_setCrash_6 (by decide) ?_
    refine va_put (D := D) (ci := 0) (v := .int 1) (ty := .boolean) (C := RX0) (T := TX0) (N := 6) hx hb hts iX0_setCrash_X0 tyX0 tyX0_ok nmX0 hown hK hP hD hS 0 rfl rfl 3 (by decide) (hts _ qX0_setCrash_1) (fun _ h9 => h9) rfl (by decide +kernel) rfl rfl (Nat.le_of_ble_eq_true rfl) dX0_setCrash_10 (fun H locs hP hD hS => ?_)
    have hP : va_P D vwCl (wF cI h q f p a 1 n k) _ := hP
    have hD : va_D A (wF cI h q f p a 1 n k) := hD
    refine lv_aload_n hx hb dX0_setCrash_13 rfl (lv_at hl 0 rfl) ?_
    refine lv_iload_n hx hb dX0_setCrash_14 rfl (lv_at hl 1 rfl) ?_
    refine va_put (D := D) (ci := 0) (v := .int x) (ty := .int) (C := RX0) (T := TX0) (N := 6) hx hb hts iX0_setCrash_X0 tyX0 tyX0_ok nmX0 hown hK hP hD hS 0 rfl rfl 4 (by decide) (hts _ qX0_setCrash_2) (fun _ h9 => h9) rfl (by decide +kernel) rfl rfl (Nat.le_of_ble_eq_true rfl) dX0_setCrash_15 (fun H locs hP hD hS => ?_)
    have hP : va_P D vwCl (wF cI h q f p a 1 x k) _ := hP
    have hD : va_D A (wF cI h q f p a 1 x k) := hD
    refine lv_aload_n hx hb dX0_setCrash_18 rfl (lv_at hl 0 rfl) ?_
    refine lv_iload_n hx hb dX0_setCrash_19 rfl (lv_at hl 2 rfl) ?_
    refine va_put (D := D) (ci := 0) (v := .int y) (ty := .int) (C := RX0) (T := TX0) (N := 6) hx hb hts iX0_setCrash_X0 tyX0 tyX0_ok nmX0 hown hK hP hD hS 0 rfl rfl 5 (by decide) (hts _ qX0_setCrash_3) (fun _ h9 => h9) rfl (by decide +kernel) rfl rfl (Nat.le_of_ble_eq_true rfl) dX0_setCrash_20 (fun H locs hP hD hS => ?_)
    have hP : va_P D vwCl (wF cI h q f p a 1 x y) _ := hP
    have hD : va_D A (wF cI h q f p a 1 x y) := hD
    exact hretV 23 ls _ _ (f, p, a, 1, x, y) dX0_setCrash_23 rfl rfl (by simp only [z_set, if_neg c_2]) hP hS
abbrev rm_X0_erase : Room := { frames := 1, cells := 0, slots := 0, locals := 20 }
set_option maxRecDepth 20000 in
theorem qX0_erase_1 : (Cond.fieldLink RX0 15 "FlashBoot$Flash" "power" "Z" : Cond) ∈ wsX0_erase := List.mem_of_getElem? (i := 1) rfl
set_option maxRecDepth 20000 in
theorem iX0_erase_X0 : ∀ w ∈ wsX00, w ∈ wsX0_erase := by decide +kernel
set_option maxRecDepth 20000 in
theorem qX0_erase_3 : (Cond.fieldLink RX0 11 "FlashBoot$Flash" "bytes" "[I" : Cond) ∈ wsX0_erase := List.mem_of_getElem? (i := 3) rfl
set_option maxRecDepth 20000 in
theorem qX0_erase_2 : (Cond.fieldLink RX0 29 "FlashBoot$Flash" "crashMask" "I" : Cond) ∈ wsX0_erase := List.mem_of_getElem? (i := 2) rfl
set_option maxHeartbeats 4000000 in
set_option maxRecDepth 100000 in
theorem k_X0_erase (l : Launch) (D : va_G) (cI : ClassId) (h q : Nat) (f : RW) (p : Int32) (a : Int32) (st : Int32) (n : Int32) (k : Int32) (pg : Nat) (hpg : pg < 24) : zMW (S := RW × Int32 × Int32 × Int32 × Int32 × Int32) l D cI yX0_erase wsX0_erase rm_X0_erase [.ref h, .int (nI pg)] (wF cI h q f p a st n k) (z_erase pg (f, p, a, st, n, k)) (fun _ => none) (fun u => wF cI h q u.1 u.2.1 u.2.2.1 u.2.2.2.1 u.2.2.2.2.1 u.2.2.2.2.2) := by
  refine zEntW (cc := cX0_erase) (maxL := 4) (ret := none) (own := RX0) (lvs := [(0, .ref h), (1, .int (nI pg))]) (by decide) rfl rfl (Nat.le_of_ble_eq_true rfl) rfl ?_
  intro p0 e s m args below meth c Q ls A hx hb hml hts hown hP hK hN hD hS hA hl hret hretV
  refine lv_aload_n hx hb dX0_erase_0 rfl (lv_at hl 0 rfl) ?_
  refine va_get (D := D) (ci := 0) (v := .int p) (C := RX0) (T := TX0) (N := 6) hx hb hts iX0_erase_X0 hown hK hP 0 rfl rfl 1 (by decide) (hts _ qX0_erase_1) (fun _ h9 => h9) rfl dX0_erase_1 ?_
  refine lv_if_eq (tgt := 21) hx hb dX0_erase_4 (by decide) (fun c_4 => ?_) (fun c_4 => ?_)
  · -- 4 t
    exact hretV 21 ls _ _ (f, p, a, st, n, k) dX0_erase_21 rfl rfl (by simp only [z_erase, z_erase2, if_pos c_4]) hP hS
  · -- 4 f
    refine lv_iload_n hx hb dX0_erase_7 rfl (lv_at hl 1 rfl) ?_
    refine lv_if_lt (tgt := 21) hx hb dX0_erase_8 (by decide) (fun c_8 => ?_) (fun c_8 => ?_)
    · -- 8 t
      exact absurd c_8 (nI_pos (by omega))
    · -- 8 f
      refine lv_iload_n hx hb dX0_erase_11 rfl (lv_at hl 1 rfl) ?_
      refine lv_bipush (v := 32) hx hb dX0_erase_12 (by decide) ?_
      refine lv_imul hx hb dX0_erase_14 ?_
      refine z_top (v := nI (pg * 32)) (pk_mul pg 32) ?_
      refine lv_sipush (v := 768) hx hb dX0_erase_15 (by decide) ?_
      refine z_icmp_lt (tgt := 22) hx hb dX0_erase_18 (by decide) (pg * 32) 768 rfl rfl (by omega) (by omega) (fun c_18 => ?_) (fun c_18 => ?_)
      · -- 18 t
        refine lv_aload_n hx hb dX0_erase_22 rfl (lv_at hl 0 rfl) ?_
        refine zVW (ws' := fun u => wF cI h q u.2.1 u.2.2.1 u.2.2.2.1 u.2.2.2.2.1 u.2.2.2.2.2.1 u.2.2.2.2.2.2) (As := []) (rest := []) ⟨hx, hb, hml, hown, hts⟩ (k_X0_tearNextAct l D cI h q f p a st n k) (cwV 0 hts gX0_erase_X0_tearNextAct rfl rfl rfl (by decide +kernel) ⟨Nat.le_of_ble_eq_true rfl, Nat.le_of_ble_eq_true rfl⟩) hP hK hN hD hS hA [0, 1] [] [] rfl (by decide) rfl (fun _ => rfl) (fun _ => rfl) (fun _ => rfl) rfl (va_recv hK hP (ci := 0) (q0 := 0) rfl rfl) rfl hl.1 rfl (Nat.le_of_ble_eq_true rfl) dX0_erase_23 ⟨Nat.zero_le _, Nat.zero_le _⟩ (fun u_23 H locs hu_23 hP hD hS => ?_)
        obtain ⟨res_23, f_23, p_23, a_23, st_23, n_23, k_23⟩ := u_23
        have hP : va_P D vwCl (wF cI h q f_23 p_23 a_23 st_23 n_23 k_23) _ := hP
        have hD : va_D A (wF cI h q f_23 p_23 a_23 st_23 n_23 k_23) := hD
        refine W.eq (g2 := F0 m 26 ls [.int res_23]) rfl ?_
        refine lv_if_eq (tgt := 39) hx hb dX0_erase_26 (by decide) (fun c_26 => ?_) (fun c_26 => ?_)
        · -- 26 t
          refine lv_bipush (v := 32) hx hb dX0_erase_39 (by decide) ?_
          refine lv_istore_n (lv' := [(2, .int 32), (0, .ref h), (1, .int (nI pg))]) hx hb dX0_erase_41 rfl hl (by decide) rfl (fun ls hl => ?_)
          refine lv_iconst (v := 0) hx hb dX0_erase_42 (by decide) ?_
          refine lv_istore_n (lv' := [(3, .int 0), (2, .int 32), (0, .ref h), (1, .int (nI pg))]) hx hb dX0_erase_43 rfl hl (by decide) rfl (fun ls hl => ?_)
          have lp_44 : ∀ (g_44 : Nat) (i : Nat) (H : Heap) (locs : List Loc) (ls : Array Slot), i ≤ (32 : Int32).toNatClampNeg → (32 : Int32).toNatClampNeg ≤ 32 → (32 : Int32).toNatClampNeg - i < g_44 → va_P D vwCl (wF cI h q (z_fill f_23 (pg * 32) i) p_23 a_23 st_23 n_23 k_23) H → va_D A (wF cI h q (z_fill f_23 (pg * 32) i) p_23 a_23 st_23 n_23 k_23) → va_S A s.heap H locs → lv_has ls 4 [(0, .ref h), (1, .int (nI pg)), (2, .int 32), (3, .int (nI i))] → W p0 l e rm_X0_erase s m args below meth c H locs 0 0 Q (F0 m 44 ls []) := by
            intro g_44
            induction g_44 with
            | zero => intro i H locs ls h1 h2 h9_44; exact absurd h9_44 (Nat.not_lt_zero _)
            | succ g_44 ih_44 =>
              intro i H locs ls h1 h2 h9_44 hP hD hS hl
              refine lv_iload_n hx hb dX0_erase_44 rfl (lv_at hl 3 rfl) ?_
              refine lv_iload_n hx hb dX0_erase_45 rfl (lv_at hl 2 rfl) ?_
              refine z_icmp_geC (tgt := 69) hx hb dX0_erase_46 (by decide) i rfl (by omega) (fun c_46 => ?_) (fun c_46 => ?_)
              · -- 46 t
                have e9 : i = (32 : Int32).toNatClampNeg := by omega
                exact hretV 69 ls _ _ (z_fill f_23 (pg * 32) i, p_23, a_23, st_23, n_23, k_23) dX0_erase_69 rfl rfl (by simp only [z_erase, if_neg c_4, ← hu_23, z_erase2, e9, z_cntT, z_cntF, c_26, not_false_eq_true]) hP hS
              · -- 46 f
                refine lv_aload_n hx hb dX0_erase_49 rfl (lv_at hl 0 rfl) ?_
                refine va_get (D := D) (ci := 0) (v := .ref q) (C := RX0) (T := TX0) (N := 6) hx hb hts iX0_erase_X0 hown hK hP 0 rfl rfl 0 (by decide) (hts _ qX0_erase_3) (fun _ h9 => h9) rfl dX0_erase_50 ?_
                refine lv_iload_n hx hb dX0_erase_53 rfl (lv_at hl 1 rfl) ?_
                refine lv_bipush (v := 32) hx hb dX0_erase_54 (by decide) ?_
                refine lv_imul hx hb dX0_erase_56 ?_
                refine z_top (v := nI (pg * 32)) (pk_mul pg 32) ?_
                refine lv_iload_n hx hb dX0_erase_57 rfl (lv_at hl 3 rfl) ?_
                refine lv_iadd hx hb dX0_erase_58 ?_
                refine z_top (v := nI ((pg * 32) + i)) (nI_add (pg * 32) i) ?_
                refine lv_sipush (v := 255) hx hb dX0_erase_59 (by decide) ?_
                refine z_iast hx hb hK hP hD hS 1 0 rfl rfl ((pg * 32) + i) (rfl) (by omega) (by decide) dX0_erase_62 (fun H locs hP hD hS => ?_)
                have hP : va_P D vwCl (wF cI h q (upd (z_fill f_23 (pg * 32) i) ((pg * 32) + i) 255) p_23 a_23 st_23 n_23 k_23) _ := hP
                have hD : va_D A (wF cI h q (upd (z_fill f_23 (pg * 32) i) ((pg * 32) + i) 255) p_23 a_23 st_23 n_23 k_23) := hD
                refine lv_iinc (v := (nI (i + 1))) (lv' := [(3, .int (nI (i + 1))), (0, .ref h), (1, .int (nI pg)), (2, .int 32)]) hx hb dX0_erase_63 hl (k := 3) rfl (z_inc _ _ rfl) (by decide) rfl (fun ls hl => ?_)
                refine lv_goto (tgt := 44) hx hb dX0_erase_66 (by decide) ?_
                exact ih_44 (i + 1) _ _ _ (by omega) (by omega) (by omega) hP hD hS (lv_sub hl [1, 2, 3, 0] rfl)
          exact lp_44 _ 0 _ _ _ (Nat.zero_le _) (by first | (exact Nat.le_succ_of_le (z_rem32 _)) | decide) (Nat.lt_succ_self _) hP hD hS (lv_sub hl [2, 3, 1, 0] rfl)
        · -- 26 f
          refine lv_aload_n hx hb dX0_erase_29 rfl (lv_at hl 0 rfl) ?_
          refine va_get (D := D) (ci := 0) (v := .int k_23) (C := RX0) (T := TX0) (N := 6) hx hb hts iX0_erase_X0 hown hK hP 0 rfl rfl 5 (by decide) (hts _ qX0_erase_2) (fun _ h9 => h9) rfl dX0_erase_30 ?_
          refine lv_bipush (v := 32) hx hb dX0_erase_33 (by decide) ?_
          refine lv_irem hx hb dX0_erase_35 (by decide) ?_
          refine lv_goto (tgt := 41) hx hb dX0_erase_36 (by decide) ?_
          refine lv_istore_n (lv' := [(2, .int (k_23 - k_23 / 32 * 32)), (0, .ref h), (1, .int (nI pg))]) hx hb dX0_erase_41 rfl hl (by decide) rfl (fun ls hl => ?_)
          refine lv_iconst (v := 0) hx hb dX0_erase_42 (by decide) ?_
          refine lv_istore_n (lv' := [(3, .int 0), (2, .int (k_23 - k_23 / 32 * 32)), (0, .ref h), (1, .int (nI pg))]) hx hb dX0_erase_43 rfl hl (by decide) rfl (fun ls hl => ?_)
          have lp_44 : ∀ (g_44 : Nat) (i : Nat) (H : Heap) (locs : List Loc) (ls : Array Slot), i ≤ (k_23 - k_23 / 32 * 32).toNatClampNeg → (k_23 - k_23 / 32 * 32).toNatClampNeg ≤ 32 → (k_23 - k_23 / 32 * 32).toNatClampNeg - i < g_44 → va_P D vwCl (wF cI h q (z_fill f_23 (pg * 32) i) p_23 a_23 st_23 n_23 k_23) H → va_D A (wF cI h q (z_fill f_23 (pg * 32) i) p_23 a_23 st_23 n_23 k_23) → va_S A s.heap H locs → lv_has ls 4 [(0, .ref h), (1, .int (nI pg)), (2, .int (k_23 - k_23 / 32 * 32)), (3, .int (nI i))] → W p0 l e rm_X0_erase s m args below meth c H locs 0 0 Q (F0 m 44 ls []) := by
            intro g_44
            induction g_44 with
            | zero => intro i H locs ls h1 h2 h9_44; exact absurd h9_44 (Nat.not_lt_zero _)
            | succ g_44 ih_44 =>
              intro i H locs ls h1 h2 h9_44 hP hD hS hl
              refine lv_iload_n hx hb dX0_erase_44 rfl (lv_at hl 3 rfl) ?_
              refine lv_iload_n hx hb dX0_erase_45 rfl (lv_at hl 2 rfl) ?_
              refine z_icmp_geC (tgt := 69) hx hb dX0_erase_46 (by decide) i rfl (by omega) (fun c_46 => ?_) (fun c_46 => ?_)
              · -- 46 t
                have e9 : i = (k_23 - k_23 / 32 * 32).toNatClampNeg := by omega
                exact hretV 69 ls _ _ (z_fill f_23 (pg * 32) i, p_23, a_23, st_23, n_23, k_23) dX0_erase_69 rfl rfl (by simp only [z_erase, if_neg c_4, ← hu_23, z_erase2, e9, z_cntT, z_cntF, c_26, not_false_eq_true]) hP hS
              · -- 46 f
                refine lv_aload_n hx hb dX0_erase_49 rfl (lv_at hl 0 rfl) ?_
                refine va_get (D := D) (ci := 0) (v := .ref q) (C := RX0) (T := TX0) (N := 6) hx hb hts iX0_erase_X0 hown hK hP 0 rfl rfl 0 (by decide) (hts _ qX0_erase_3) (fun _ h9 => h9) rfl dX0_erase_50 ?_
                refine lv_iload_n hx hb dX0_erase_53 rfl (lv_at hl 1 rfl) ?_
                refine lv_bipush (v := 32) hx hb dX0_erase_54 (by decide) ?_
                refine lv_imul hx hb dX0_erase_56 ?_
                refine z_top (v := nI (pg * 32)) (pk_mul pg 32) ?_
                refine lv_iload_n hx hb dX0_erase_57 rfl (lv_at hl 3 rfl) ?_
                refine lv_iadd hx hb dX0_erase_58 ?_
                refine z_top (v := nI ((pg * 32) + i)) (nI_add (pg * 32) i) ?_
                refine lv_sipush (v := 255) hx hb dX0_erase_59 (by decide) ?_
                refine z_iast hx hb hK hP hD hS 1 0 rfl rfl ((pg * 32) + i) (rfl) (by omega) (by decide) dX0_erase_62 (fun H locs hP hD hS => ?_)
                have hP : va_P D vwCl (wF cI h q (upd (z_fill f_23 (pg * 32) i) ((pg * 32) + i) 255) p_23 a_23 st_23 n_23 k_23) _ := hP
                have hD : va_D A (wF cI h q (upd (z_fill f_23 (pg * 32) i) ((pg * 32) + i) 255) p_23 a_23 st_23 n_23 k_23) := hD
                refine lv_iinc (v := (nI (i + 1))) (lv' := [(3, .int (nI (i + 1))), (0, .ref h), (1, .int (nI pg)), (2, .int (k_23 - k_23 / 32 * 32))]) hx hb dX0_erase_63 hl (k := 3) rfl (z_inc _ _ rfl) (by decide) rfl (fun ls hl => ?_)
                refine lv_goto (tgt := 44) hx hb dX0_erase_66 (by decide) ?_
                exact ih_44 (i + 1) _ _ _ (by omega) (by omega) (by omega) hP hD hS (lv_sub hl [1, 2, 3, 0] rfl)
          exact lp_44 _ 0 _ _ _ (Nat.zero_le _) (by first | (exact Nat.le_succ_of_le (z_rem32 _)) | decide) (Nat.lt_succ_self _) hP hD hS (lv_sub hl [2, 3, 1, 0] rfl)
      · -- 18 f
        exact absurd c_18 (by omega)
abbrev rm_X0_program : Room := { frames := 1, cells := 0, slots := 0, locals := 20 }
set_option maxRecDepth 20000 in
theorem qX0_program_1 : (Cond.fieldLink RX0 15 "FlashBoot$Flash" "power" "Z" : Cond) ∈ wsX0_program := List.mem_of_getElem? (i := 1) rfl
set_option maxRecDepth 20000 in
theorem iX0_program_X0 : ∀ w ∈ wsX00, w ∈ wsX0_program := by decide +kernel
set_option maxRecDepth 20000 in
theorem qX0_program_3 : (Cond.fieldLink RX0 11 "FlashBoot$Flash" "bytes" "[I" : Cond) ∈ wsX0_program := List.mem_of_getElem? (i := 3) rfl
set_option maxRecDepth 20000 in
theorem qX0_program_2 : (Cond.fieldLink RX0 29 "FlashBoot$Flash" "crashMask" "I" : Cond) ∈ wsX0_program := List.mem_of_getElem? (i := 2) rfl
set_option maxHeartbeats 4000000 in
set_option maxRecDepth 100000 in
theorem k_X0_program (l : Launch) (D : va_G) (cI : ClassId) (h q : Nat) (f : RW) (p : Int32) (a : Int32) (st : Int32) (n : Int32) (k : Int32) (i : Int32) (x : Int32)  : zMW (S := RW × Int32 × Int32 × Int32 × Int32 × Int32) l D cI yX0_program wsX0_program rm_X0_program [.ref h, .int i, .int x] (wF cI h q f p a st n k) (z_prog i x (f, p, a, st, n, k)) (fun _ => none) (fun u => wF cI h q u.1 u.2.1 u.2.2.1 u.2.2.2.1 u.2.2.2.2.1 u.2.2.2.2.2) := by
  refine zEntW (cc := cX0_program) (maxL := 4) (ret := none) (own := RX0) (lvs := [(0, .ref h), (1, .int i), (2, .int x)]) (by decide) rfl rfl (Nat.le_of_ble_eq_true rfl) rfl ?_
  intro p0 e s m args below meth c Q ls A hx hb hml hts hown hP hK hN hD hS hA hl hret hretV
  refine lv_aload_n hx hb dX0_program_0 rfl (lv_at hl 0 rfl) ?_
  refine va_get (D := D) (ci := 0) (v := .int p) (C := RX0) (T := TX0) (N := 6) hx hb hts iX0_program_X0 hown hK hP 0 rfl rfl 1 (by decide) (hts _ qX0_program_1) (fun _ h9 => h9) rfl dX0_program_1 ?_
  refine lv_if_eq (tgt := 18) hx hb dX0_program_4 (by decide) (fun c_4 => ?_) (fun c_4 => ?_)
  · -- 4 t
    exact hretV 18 ls _ _ (f, p, a, st, n, k) dX0_program_18 rfl rfl (by simp only [z_prog, z_prog2, if_pos c_4]) hP hS
  · -- 4 f
    refine lv_iload_n hx hb dX0_program_7 rfl (lv_at hl 1 rfl) ?_
    refine lv_if_lt (tgt := 18) hx hb dX0_program_8 (by decide) (fun c_8 => ?_) (fun c_8 => ?_)
    · -- 8 t
      exact hretV 18 ls _ _ (f, p, a, st, n, k) dX0_program_18 rfl rfl (by simp only [z_prog, z_prog2, if_neg c_4, if_pos c_8]) hP hS
    · -- 8 f
      refine lv_iload_n hx hb dX0_program_11 rfl (lv_at hl 1 rfl) ?_
      refine lv_sipush (v := 768) hx hb dX0_program_12 (by decide) ?_
      refine lv_icmp_lt (tgt := 19) hx hb dX0_program_15 (by decide) (fun c_15 => ?_) (fun c_15 => ?_)
      · -- 15 t
        refine lv_aload_n hx hb dX0_program_19 rfl (lv_at hl 0 rfl) ?_
        refine zVW (ws' := fun u => wF cI h q u.2.1 u.2.2.1 u.2.2.2.1 u.2.2.2.2.1 u.2.2.2.2.2.1 u.2.2.2.2.2.2) (As := []) (rest := []) ⟨hx, hb, hml, hown, hts⟩ (k_X0_tearNextAct l D cI h q f p a st n k) (cwV 0 hts gX0_program_X0_tearNextAct rfl rfl rfl (by decide +kernel) ⟨Nat.le_of_ble_eq_true rfl, Nat.le_of_ble_eq_true rfl⟩) hP hK hN hD hS hA [0, 1] [] [] rfl (by decide) rfl (fun _ => rfl) (fun _ => rfl) (fun _ => rfl) rfl (va_recv hK hP (ci := 0) (q0 := 0) rfl rfl) rfl hl.1 rfl (Nat.le_of_ble_eq_true rfl) dX0_program_20 ⟨Nat.zero_le _, Nat.zero_le _⟩ (fun u_20 H locs hu_20 hP hD hS => ?_)
        obtain ⟨res_20, f_20, p_20, a_20, st_20, n_20, k_20⟩ := u_20
        have hP : va_P D vwCl (wF cI h q f_20 p_20 a_20 st_20 n_20 k_20) _ := hP
        have hD : va_D A (wF cI h q f_20 p_20 a_20 st_20 n_20 k_20) := hD
        refine W.eq (g2 := F0 m 23 ls [.int res_20]) rfl ?_
        refine lv_if_eq (tgt := 35) hx hb dX0_program_23 (by decide) (fun c_23 => ?_) (fun c_23 => ?_)
        · -- 23 t
          refine lv_iload_n hx hb dX0_program_35 rfl (lv_at hl 2 rfl) ?_
          refine lv_istore_n (lv' := [(3, .int x), (0, .ref h), (1, .int i), (2, .int x)]) hx hb dX0_program_36 rfl hl (by decide) rfl (fun ls hl => ?_)
          refine lv_aload_n hx hb dX0_program_37 rfl (lv_at hl 1 rfl) ?_
          refine va_get (D := D) (ci := 0) (v := .ref q) (C := RX0) (T := TX0) (N := 6) hx hb hts iX0_program_X0 hown hK hP 0 rfl rfl 0 (by decide) (hts _ qX0_program_3) (fun _ h9 => h9) rfl dX0_program_38 ?_
          refine lv_iload_n hx hb dX0_program_41 rfl (lv_at hl 2 rfl) ?_
          refine lv_aload_n hx hb dX0_program_42 rfl (lv_at hl 1 rfl) ?_
          refine va_get (D := D) (ci := 0) (v := .ref q) (C := RX0) (T := TX0) (N := 6) hx hb hts iX0_program_X0 hown hK hP 0 rfl rfl 0 (by decide) (hts _ qX0_program_3) (fun _ h9 => h9) rfl dX0_program_43 ?_
          refine lv_iload_n hx hb dX0_program_46 rfl (lv_at hl 2 rfl) ?_
          refine va_iald hx hb hK hP 1 0 rfl rfl (z_vp (m := 768) rfl (by decide) c_8 c_15) dX0_program_47 ?_
          refine lv_iload_n hx hb dX0_program_48 rfl (lv_at hl 0 rfl) ?_
          refine lv_iand hx hb dX0_program_49 ?_
          refine va_iast hx hb hK hP hD hS 1 0 rfl rfl (z_vp (m := 768) rfl (by decide) c_8 c_15) dX0_program_50 (fun H locs hP hD hS => ?_)
          have hP : va_P D vwCl (wF cI h q (upd f_20 (i).toNatClampNeg ((f_20 (i).toNatClampNeg) &&& x)) p_20 a_20 st_20 n_20 k_20) _ := hP
          have hD : va_D A (wF cI h q (upd f_20 (i).toNatClampNeg ((f_20 (i).toNatClampNeg) &&& x)) p_20 a_20 st_20 n_20 k_20) := hD
          exact hretV 51 ls _ _ (upd f_20 (i).toNatClampNeg ((f_20 (i).toNatClampNeg) &&& x), p_20, a_20, st_20, n_20, k_20) dX0_program_51 rfl rfl (by simp only [z_prog, z_prog2, ← hu_20, if_neg c_4, if_neg c_8, if_pos c_15, if_pos c_23]) hP hS
        · -- 23 f
          refine lv_iload_n hx hb dX0_program_26 rfl (lv_at hl 2 rfl) ?_
          refine lv_aload_n hx hb dX0_program_27 rfl (lv_at hl 0 rfl) ?_
          refine va_get (D := D) (ci := 0) (v := .int k_20) (C := RX0) (T := TX0) (N := 6) hx hb hts iX0_program_X0 hown hK hP 0 rfl rfl 5 (by decide) (hts _ qX0_program_2) (fun _ h9 => h9) rfl dX0_program_28 ?_
          refine lv_ior hx hb dX0_program_31 ?_
          refine lv_goto (tgt := 36) hx hb dX0_program_32 (by decide) ?_
          refine lv_istore_n (lv' := [(3, .int (x ||| k_20)), (0, .ref h), (1, .int i), (2, .int x)]) hx hb dX0_program_36 rfl hl (by decide) rfl (fun ls hl => ?_)
          refine lv_aload_n hx hb dX0_program_37 rfl (lv_at hl 1 rfl) ?_
          refine va_get (D := D) (ci := 0) (v := .ref q) (C := RX0) (T := TX0) (N := 6) hx hb hts iX0_program_X0 hown hK hP 0 rfl rfl 0 (by decide) (hts _ qX0_program_3) (fun _ h9 => h9) rfl dX0_program_38 ?_
          refine lv_iload_n hx hb dX0_program_41 rfl (lv_at hl 2 rfl) ?_
          refine lv_aload_n hx hb dX0_program_42 rfl (lv_at hl 1 rfl) ?_
          refine va_get (D := D) (ci := 0) (v := .ref q) (C := RX0) (T := TX0) (N := 6) hx hb hts iX0_program_X0 hown hK hP 0 rfl rfl 0 (by decide) (hts _ qX0_program_3) (fun _ h9 => h9) rfl dX0_program_43 ?_
          refine lv_iload_n hx hb dX0_program_46 rfl (lv_at hl 2 rfl) ?_
          refine va_iald hx hb hK hP 1 0 rfl rfl (z_vp (m := 768) rfl (by decide) c_8 c_15) dX0_program_47 ?_
          refine lv_iload_n hx hb dX0_program_48 rfl (lv_at hl 0 rfl) ?_
          refine lv_iand hx hb dX0_program_49 ?_
          refine va_iast hx hb hK hP hD hS 1 0 rfl rfl (z_vp (m := 768) rfl (by decide) c_8 c_15) dX0_program_50 (fun H locs hP hD hS => ?_)
          have hP : va_P D vwCl (wF cI h q (upd f_20 (i).toNatClampNeg ((f_20 (i).toNatClampNeg) &&& (x ||| k_20))) p_20 a_20 st_20 n_20 k_20) _ := hP
          have hD : va_D A (wF cI h q (upd f_20 (i).toNatClampNeg ((f_20 (i).toNatClampNeg) &&& (x ||| k_20))) p_20 a_20 st_20 n_20 k_20) := hD
          exact hretV 51 ls _ _ (upd f_20 (i).toNatClampNeg ((f_20 (i).toNatClampNeg) &&& (x ||| k_20)), p_20, a_20, st_20, n_20, k_20) dX0_program_51 rfl rfl (by simp only [z_prog, z_prog2, ← hu_20, if_neg c_4, if_neg c_8, if_pos c_15, if_neg c_23]) hP hS
      · -- 15 f
        exact hretV 18 ls _ _ (f, p, a, st, n, k) dX0_program_18 rfl rfl (by simp only [z_prog, z_prog2, if_neg c_4, if_neg c_8, if_neg c_15]) hP hS
abbrev rm_X0_programRow : Room := { frames := 2, cells := 0, slots := 0, locals := 43 }
set_option maxHeartbeats 4000000 in
set_option maxRecDepth 100000 in
theorem k_X0_programRow (l : Launch) (D : va_G) (cI : ClassId) (h q r : Nat) (f : RW) (p : Int32) (a : Int32) (st : Int32) (n : Int32) (k : Int32) (row : RW) (rl : Nat) (b : Int32) (len : Int32) (hrl : rl < 2 ^ 31) : zMW (S := RW × Int32 × Int32 × Int32 × Int32 × Int32) l D cI yX0_programRow wsX0_programRow rm_X0_programRow [.ref h, .int b, .ref r, .int len] (wFR cI h q r f p a st n k row rl) (z_row b row rl len (f, p, a, st, n, k)) (fun _ => none) (fun u => wFR cI h q r u.1 u.2.1 u.2.2.1 u.2.2.2.1 u.2.2.2.2.1 u.2.2.2.2.2 row rl) := by
  refine zEntW (cc := cX0_programRow) (maxL := 5) (ret := none) (own := RX0) (lvs := [(0, .ref h), (1, .int b), (2, .ref r), (3, .int len)]) (by decide) rfl rfl (Nat.le_of_ble_eq_true rfl) rfl ?_
  intro p0 e s m args below meth c Q ls A hx hb hml hts hown hP hK hN hD hS hA hl hret hretV
  refine lv_iconst (v := 0) hx hb dX0_programRow_0 (by decide) ?_
  refine lv_istore (lv' := [(4, .int 0), (0, .ref h), (1, .int b), (2, .ref r), (3, .int len)]) hx hb dX0_programRow_1 hl (by decide) rfl (fun ls hl => ?_)
  have lp_3 : ∀ (g_3 : Nat) (i : Nat) (f9 : RW) (p9 : Int32) (a9 : Int32) (s9 : Int32) (n9 : Int32) (k9 : Int32) (H : Heap) (locs : List Loc) (ls : Array Slot), i ≤ rl → i ≤ len.toNatClampNeg → (f9, p9, a9, s9, n9, k9) = z_rowN (f, p, a, st, n, k) b row i → rl - i < g_3 → va_P D vwCl (wFR cI h q r f9 p9 a9 s9 n9 k9 row rl) H → va_D A (wFR cI h q r f9 p9 a9 s9 n9 k9 row rl) → va_S A s.heap H locs → lv_has ls 5 [(0, .ref h), (1, .int b), (2, .ref r), (3, .int len), (4, .int (nI i))] → W p0 l e rm_X0_programRow s m args below meth c H locs 0 0 Q (F0 m 3 ls []) := by
    intro g_3
    induction g_3 with
    | zero => intro i f9 p9 a9 s9 n9 k9 H locs ls h1 h2 hy h9_3; exact absurd h9_3 (Nat.not_lt_zero _)
    | succ g_3 ih_3 =>
      intro i f9 p9 a9 s9 n9 k9 H locs ls h1 h2 hy h9_3 hP hD hS hl
      refine lv_iload hx hb dX0_programRow_3 (lv_at hl 4 rfl) ?_
      refine lv_iload_n hx hb dX0_programRow_5 rfl (lv_at hl 3 rfl) ?_
      refine z_icmp_geC (tgt := 34) hx hb dX0_programRow_6 (by decide) i rfl (by omega) (fun c_6 => ?_) (fun c_6 => ?_)
      · -- 6 t
        exact hretV 34 ls _ _ (f9, p9, a9, s9, n9, k9) dX0_programRow_34 rfl rfl (by rw [z_row, show min len.toNatClampNeg rl = i by omega]; exact hy) hP hS
      · -- 6 f
        refine lv_iload hx hb dX0_programRow_9 (lv_at hl 4 rfl) ?_
        refine lv_aload_n hx hb dX0_programRow_11 rfl (lv_at hl 2 rfl) ?_
        refine va_alen (v := nI rl) hx hb hK hP 2 0 rfl (ty := .int) rfl rfl dX0_programRow_12 ?_
        refine z_icmp_ge (tgt := 34) hx hb dX0_programRow_13 (by decide) i rl rfl rfl (by omega) (by omega) (fun c_13 => ?_) (fun c_13 => ?_)
        · -- 13 t
          exact hretV 34 ls _ _ (f9, p9, a9, s9, n9, k9) dX0_programRow_34 rfl rfl (by rw [z_row, show min len.toNatClampNeg rl = i by omega]; exact hy) hP hS
        · -- 13 f
          refine lv_aload_n hx hb dX0_programRow_16 rfl (lv_at hl 0 rfl) ?_
          refine lv_iload_n hx hb dX0_programRow_17 rfl (lv_at hl 1 rfl) ?_
          refine lv_iload hx hb dX0_programRow_18 (lv_at hl 4 rfl) ?_
          refine lv_iadd hx hb dX0_programRow_20 ?_
          refine lv_aload_n hx hb dX0_programRow_21 rfl (lv_at hl 2 rfl) ?_
          refine lv_iload hx hb dX0_programRow_22 (lv_at hl 4 rfl) ?_
          refine z_iald hx hb hK hP 2 0 rfl rfl i rfl (by omega) (by omega) dX0_programRow_24 ?_
          refine zVW (ws' := fun u => wFR cI h q r u.1 u.2.1 u.2.2.1 u.2.2.2.1 u.2.2.2.2.1 u.2.2.2.2.2 row rl) (As := [.int (b + (nI i)), .int (row i)]) (rest := []) ⟨hx, hb, hml, hown, hts⟩ (k_X0_program l D cI h q f9 p9 a9 s9 n9 k9 (b + (nI i)) (row i)) (cwV 2 hts gX0_programRow_X0_program rfl rfl rfl (by decide +kernel) ⟨Nat.le_of_ble_eq_true rfl, Nat.le_of_ble_eq_true rfl⟩) hP hK hN hD hS hA [0, 1] [2] [(r, .inl (cI, rl, .inl row))] rfl (by decide) rfl (fun _ => rfl) (fun _ => rfl) (fun _ => rfl) rfl (va_recv hK hP (ci := 0) (q0 := 0) rfl rfl) rfl hl.1 rfl (Nat.le_of_ble_eq_true rfl) dX0_programRow_25 ⟨Nat.zero_le _, Nat.zero_le _⟩ (fun u_25 H locs hu_25 hP hD hS => ?_)
          obtain ⟨f_25, p_25, a_25, st_25, n_25, k_25⟩ := u_25
          have hP : va_P D vwCl (wFR cI h q r f_25 p_25 a_25 st_25 n_25 k_25 row rl) _ := hP
          have hD : va_D A (wFR cI h q r f_25 p_25 a_25 st_25 n_25 k_25 row rl) := hD
          refine W.eq (g2 := F0 m 28 ls []) rfl ?_
          refine lv_iinc (v := (nI (i + 1))) (lv' := [(4, .int (nI (i + 1))), (0, .ref h), (1, .int b), (2, .ref r), (3, .int len)]) hx hb dX0_programRow_28 hl (k := 4) rfl (z_inc _ _ rfl) (by decide) rfl (fun ls hl => ?_)
          refine lv_goto (tgt := 3) hx hb dX0_programRow_31 (by decide) ?_
          exact ih_3 (i + 1) f_25 p_25 a_25 st_25 n_25 k_25 _ _ _ (by omega) (by omega) (by rw [hu_25, z_rowN, ← hy]) (by omega) hP hD hS (lv_sub hl [1, 2, 3, 4, 0] rfl)
  exact lp_3 _ 0 f p a st n k _ _ _ (Nat.zero_le _) (Nat.zero_le _) rfl (Nat.lt_succ_self _) hP hD hS (lv_sub hl [1, 2, 3, 4, 0] rfl)
abbrev rm_X0_programWord : Room := { frames := 2, cells := 0, slots := 0, locals := 43 }
set_option maxRecDepth 20000 in
theorem qX0_programWord_2 : (Cond.initialized RX5 : Cond) ∈ wsX0_programWord := List.mem_of_getElem? (i := 2) rfl
set_option maxRecDepth 20000 in
theorem qX0_programWord_1 : (Cond.static yX5_byteOfWord : Cond) ∈ wsX0_programWord := List.mem_of_getElem? (i := 1) rfl
set_option maxHeartbeats 4000000 in
set_option maxRecDepth 100000 in
theorem k_X0_programWord (l : Launch) (D : va_G) (cI : ClassId) (h q : Nat) (f : RW) (p : Int32) (a : Int32) (st : Int32) (n : Int32) (k : Int32) (b : Int32) (w : Int32)  : zMW (S := RW × Int32 × Int32 × Int32 × Int32 × Int32) l D cI yX0_programWord wsX0_programWord rm_X0_programWord [.ref h, .int b, .int w] (wF cI h q f p a st n k) (z_pw b w (f, p, a, st, n, k)) (fun _ => none) (fun u => wF cI h q u.1 u.2.1 u.2.2.1 u.2.2.2.1 u.2.2.2.2.1 u.2.2.2.2.2) := by
  refine zEntW (cc := cX0_programWord) (maxL := 4) (ret := none) (own := RX0) (lvs := [(0, .ref h), (1, .int b), (2, .int w)]) (by decide) rfl rfl (Nat.le_of_ble_eq_true rfl) rfl ?_
  intro p0 e s m args below meth c Q ls A hx hb hml hts hown hP hK hN hD hS hA hl hret hretV
  refine lv_iconst (v := 0) hx hb dX0_programWord_0 (by decide) ?_
  refine lv_istore_n (lv' := [(3, .int 0), (0, .ref h), (1, .int b), (2, .int w)]) hx hb dX0_programWord_1 rfl hl (by decide) rfl (fun ls hl => ?_)
  have lp_2 : ∀ (g_2 : Nat) (i : Nat) (f9 : RW) (p9 : Int32) (a9 : Int32) (s9 : Int32) (n9 : Int32) (k9 : Int32) (H : Heap) (locs : List Loc) (ls : Array Slot), i ≤ 4 → (f9, p9, a9, s9, n9, k9) = z_pwN (f, p, a, st, n, k) b w i → 4 - i < g_2 → va_P D vwCl (wF cI h q f9 p9 a9 s9 n9 k9) H → va_D A (wF cI h q f9 p9 a9 s9 n9 k9) → va_S A s.heap H locs → lv_has ls 4 [(0, .ref h), (1, .int b), (2, .int w), (3, .int (nI i))] → W p0 l e rm_X0_programWord s m args below meth c H locs 0 0 Q (F0 m 2 ls []) := by
    intro g_2
    induction g_2 with
    | zero => intro i f9 p9 a9 s9 n9 k9 H locs ls h1 hy h9_2; exact absurd h9_2 (Nat.not_lt_zero _)
    | succ g_2 ih_2 =>
      intro i f9 p9 a9 s9 n9 k9 H locs ls h1 hy h9_2 hP hD hS hl
      refine lv_iload_n hx hb dX0_programWord_2 rfl (lv_at hl 3 rfl) ?_
      refine lv_iconst (v := 4) hx hb dX0_programWord_3 (by decide) ?_
      refine z_icmp_ge (tgt := 25) hx hb dX0_programWord_4 (by decide) i 4 rfl rfl (by omega) (by omega) (fun c_4 => ?_) (fun c_4 => ?_)
      · -- 4 t
        exact hretV 25 ls _ _ (f9, p9, a9, s9, n9, k9) dX0_programWord_25 rfl rfl (by rw [z_pw, show 4 = i by omega]; exact hy) hP hS
      · -- 4 f
        refine lv_aload_n hx hb dX0_programWord_7 rfl (lv_at hl 0 rfl) ?_
        refine lv_iload_n hx hb dX0_programWord_8 rfl (lv_at hl 1 rfl) ?_
        refine lv_iload_n hx hb dX0_programWord_9 rfl (lv_at hl 3 rfl) ?_
        refine lv_iadd hx hb dX0_programWord_10 ?_
        refine lv_iload_n hx hb dX0_programWord_11 rfl (lv_at hl 2 rfl) ?_
        refine lv_iload_n hx hb dX0_programWord_12 rfl (lv_at hl 3 rfl) ?_
        refine zNR (As := [.int w, .int (nI i)]) (rest := [.int (b + (nI i)), .ref h]) ⟨hx, hb, hml, hown, hts⟩ (k_X5_byteOfWord l D cI w (nI i)) ⟨va_cnB 2 hts gX0_programWord_X5_byteOfWord_n40 rfl rfl rfl (zN_at hN 12 rfl) (hts _ qX0_programWord_2) (by decide +kernel) ⟨Nat.le_of_ble_eq_true rfl, Nat.le_of_ble_eq_true rfl⟩, hts _ qX0_programWord_1, trivial⟩ hP hK hN [] rfl rfl hl.1 rfl (Nat.le_of_ble_eq_true rfl) dX0_programWord_13 ⟨Nat.zero_le _, Nat.zero_le _⟩ ?_
        refine zVW (ws' := fun u => wF cI h q u.1 u.2.1 u.2.2.1 u.2.2.2.1 u.2.2.2.2.1 u.2.2.2.2.2) (As := [.int (b + (nI i)), .int (z_bow w (nI i))]) (rest := []) ⟨hx, hb, hml, hown, hts⟩ (k_X0_program l D cI h q f9 p9 a9 s9 n9 k9 (b + (nI i)) (z_bow w (nI i))) (cwV 2 hts gX0_programWord_X0_program rfl rfl rfl (by decide +kernel) ⟨Nat.le_of_ble_eq_true rfl, Nat.le_of_ble_eq_true rfl⟩) hP hK hN hD hS hA [0, 1] [] [] rfl (by decide) rfl (fun _ => rfl) (fun _ => rfl) (fun _ => rfl) rfl (va_recv hK hP (ci := 0) (q0 := 0) rfl rfl) rfl hl.1 rfl (Nat.le_of_ble_eq_true rfl) dX0_programWord_16 ⟨Nat.zero_le _, Nat.zero_le _⟩ (fun u_16 H locs hu_16 hP hD hS => ?_)
        obtain ⟨f_16, p_16, a_16, st_16, n_16, k_16⟩ := u_16
        have hP : va_P D vwCl (wF cI h q f_16 p_16 a_16 st_16 n_16 k_16) _ := hP
        have hD : va_D A (wF cI h q f_16 p_16 a_16 st_16 n_16 k_16) := hD
        refine W.eq (g2 := F0 m 19 ls []) rfl ?_
        refine lv_iinc (v := (nI (i + 1))) (lv' := [(3, .int (nI (i + 1))), (0, .ref h), (1, .int b), (2, .int w)]) hx hb dX0_programWord_19 hl (k := 3) rfl (z_inc _ _ rfl) (by decide) rfl (fun ls hl => ?_)
        refine lv_goto (tgt := 2) hx hb dX0_programWord_22 (by decide) ?_
        exact ih_2 (i + 1) f_16 p_16 a_16 st_16 n_16 k_16 _ _ _ (by omega) (by rw [hu_16, z_pwN, ← hy]) (by omega) hP hD hS (lv_sub hl [1, 2, 3, 0] rfl)
  exact lp_2 _ 0 f p a st n k _ _ _ (by omega) rfl (Nat.lt_succ_self _) hP hD hS (lv_sub hl [1, 2, 3, 0] rfl)
abbrev rm_X0_programLowestBit : Room := { frames := 2, cells := 0, slots := 0, locals := 43 }
set_option maxHeartbeats 4000000 in
set_option maxRecDepth 100000 in
theorem k_X0_programLowestBit (l : Launch) (D : va_G) (cI : ClassId) (h q : Nat) (f : RW) (p : Int32) (a : Int32) (st : Int32) (n : Int32) (k : Int32) (i : Int32)  : zMW (S := RW × Int32 × Int32 × Int32 × Int32 × Int32) l D cI yX0_programLowestBit wsX0_programLowestBit rm_X0_programLowestBit [.ref h, .int i] (wF cI h q f p a st n k) (z_plow i (f, p, a, st, n, k)) (fun _ => none) (fun u => wF cI h q u.1 u.2.1 u.2.2.1 u.2.2.2.1 u.2.2.2.2.1 u.2.2.2.2.2) := by
  refine zEntW (cc := cX0_programLowestBit) (maxL := 3) (ret := none) (own := RX0) (lvs := [(0, .ref h), (1, .int i)]) (by decide) rfl rfl (Nat.le_of_ble_eq_true rfl) rfl ?_
  intro p0 e s m args below meth c Q ls A hx hb hml hts hown hP hK hN hD hS hA hl hret hretV
  refine lv_aload_n hx hb dX0_programLowestBit_0 rfl (lv_at hl 0 rfl) ?_
  refine lv_iload_n hx hb dX0_programLowestBit_1 rfl (lv_at hl 1 rfl) ?_
  refine zVR (As := [.int i]) (rest := []) ⟨hx, hb, hml, hown, hts⟩ (k_X0_at l D cI h q f p a st n k i) (cwV 1 hts gX0_programLowestBit_X0_at rfl rfl rfl (by decide +kernel) ⟨Nat.le_of_ble_eq_true rfl, Nat.le_of_ble_eq_true rfl⟩) hP hK hN [0, 1] rfl (va_recv hK hP (ci := 0) (q0 := 0) rfl rfl) rfl hl.1 rfl (Nat.le_of_ble_eq_true rfl) dX0_programLowestBit_2 ⟨Nat.zero_le _, Nat.zero_le _⟩ ?_
  refine lv_istore_n (lv' := [(2, .int (z_at f i)), (0, .ref h), (1, .int i)]) hx hb dX0_programLowestBit_5 rfl hl (by decide) rfl (fun ls hl => ?_)
  refine lv_aload_n hx hb dX0_programLowestBit_6 rfl (lv_at hl 1 rfl) ?_
  refine lv_iload_n hx hb dX0_programLowestBit_7 rfl (lv_at hl 2 rfl) ?_
  refine lv_iload_n hx hb dX0_programLowestBit_8 rfl (lv_at hl 0 rfl) ?_
  refine lv_iload_n hx hb dX0_programLowestBit_9 rfl (lv_at hl 0 rfl) ?_
  refine lv_iconst (v := 1) hx hb dX0_programLowestBit_10 (by decide) ?_
  refine lv_isub hx hb dX0_programLowestBit_11 ?_
  refine lv_iand hx hb dX0_programLowestBit_12 ?_
  refine zVW (ws' := fun u => wF cI h q u.1 u.2.1 u.2.2.1 u.2.2.2.1 u.2.2.2.2.1 u.2.2.2.2.2) (As := [.int i, .int ((z_at f i) &&& ((z_at f i) - 1))]) (rest := []) ⟨hx, hb, hml, hown, hts⟩ (k_X0_program l D cI h q f p a st n k i ((z_at f i) &&& ((z_at f i) - 1))) (cwV 2 hts gX0_programLowestBit_X0_program rfl rfl rfl (by decide +kernel) ⟨Nat.le_of_ble_eq_true rfl, Nat.le_of_ble_eq_true rfl⟩) hP hK hN hD hS hA [0, 1] [] [] rfl (by decide) rfl (fun _ => rfl) (fun _ => rfl) (fun _ => rfl) rfl (va_recv hK hP (ci := 0) (q0 := 0) rfl rfl) rfl hl.1 rfl (Nat.le_of_ble_eq_true rfl) dX0_programLowestBit_13 ⟨Nat.zero_le _, Nat.zero_le _⟩ (fun u_13 H locs hu_13 hP hD hS => ?_)
  obtain ⟨f_13, p_13, a_13, st_13, n_13, k_13⟩ := u_13
  have hP : va_P D vwCl (wF cI h q f_13 p_13 a_13 st_13 n_13 k_13) _ := hP
  have hD : va_D A (wF cI h q f_13 p_13 a_13 st_13 n_13 k_13) := hD
  refine W.eq (g2 := F0 m 16 ls []) rfl ?_
  exact hretV 16 ls _ _ (f_13, p_13, a_13, st_13, n_13, k_13) dX0_programLowestBit_16 rfl rfl (by simp only [z_plow, ← hu_13]) hP hS
abbrev rm_X0_word : Room := { frames := 1, cells := 0, slots := 0, locals := 21 }
set_option maxHeartbeats 4000000 in
set_option maxRecDepth 100000 in
theorem k_X0_word (l : Launch) (D : va_G) (cI : ClassId) (h q : Nat) (f : RW) (p : Int32) (a : Int32) (st : Int32) (n : Int32) (k : Int32) (b : Int32)  : zMR l D cI yX0_word wsX0_word rm_X0_word [.ref h, .int b] (wF cI h q f p a st n k) (.int (z_word f b)) := by
  refine zEntR (cc := cX0_word) (maxL := 4) (ret := (some .int)) (own := RX0) (lvs := [(0, .ref h), (1, .int b)]) (by decide) rfl rfl rfl rfl (Nat.le_of_ble_eq_true rfl) rfl ?_
  intro p0 e s m args below meth c Q ls hx hb hml hts hown hP hK hN hl hret hretA
  refine lv_iconst (v := 0) hx hb dX0_word_0 (by decide) ?_
  refine lv_istore_n (lv' := [(2, .int 0), (0, .ref h), (1, .int b)]) hx hb dX0_word_1 rfl hl (by decide) rfl (fun ls hl => ?_)
  refine lv_iconst (v := 0) hx hb dX0_word_2 (by decide) ?_
  refine lv_istore_n (lv' := [(3, .int 0), (2, .int 0), (0, .ref h), (1, .int b)]) hx hb dX0_word_3 rfl hl (by decide) rfl (fun ls hl => ?_)
  have lp_4 : ∀ (g_4 : Nat) (i : Nat) (ls : Array Slot), i ≤ 4 → 4 - i < g_4 → lv_has ls 4 [(0, .ref h), (1, .int b), (2, .int (z_wordN f b i)), (3, .int (nI i))] → W p0 l e rm_X0_word s m args below meth c s.heap [] 0 0 Q (F0 m 4 ls []) := by
    intro g_4
    induction g_4 with
    | zero => intro i ls h1 h9_4; exact absurd h9_4 (Nat.not_lt_zero _)
    | succ g_4 ih_4 =>
      intro i ls h1 h9_4 hl
      refine lv_iload_n hx hb dX0_word_4 rfl (lv_at hl 3 rfl) ?_
      refine lv_iconst (v := 4) hx hb dX0_word_5 (by decide) ?_
      refine z_icmp_ge (tgt := 28) hx hb dX0_word_6 (by decide) i 4 rfl rfl (by omega) (by omega) (fun c_6 => ?_) (fun c_6 => ?_)
      · -- 6 t
        refine lv_iload_n hx hb dX0_word_28 rfl (lv_at hl 2 rfl) ?_
        exact hret 29 ls (z_wordN f b i) _ dX0_word_29 rfl rfl (congrArg Value.int (by rw [z_word, show 4 = i by omega]))
      · -- 6 f
        refine lv_iload_n hx hb dX0_word_9 rfl (lv_at hl 2 rfl) ?_
        refine lv_bipush (v := 8) hx hb dX0_word_10 (by decide) ?_
        refine lv_ishl hx hb dX0_word_12 ?_
        refine lv_aload_n hx hb dX0_word_13 rfl (lv_at hl 0 rfl) ?_
        refine lv_iload_n hx hb dX0_word_14 rfl (lv_at hl 1 rfl) ?_
        refine lv_iload_n hx hb dX0_word_15 rfl (lv_at hl 3 rfl) ?_
        refine lv_iadd hx hb dX0_word_16 ?_
        refine zVR (As := [.int (b + (nI i))]) (rest := [.int ((z_wordN f b i) <<< (8 &&& 31))]) ⟨hx, hb, hml, hown, hts⟩ (k_X0_at l D cI h q f p a st n k (b + (nI i))) (cwV 1 hts gX0_word_X0_at rfl rfl rfl (by decide +kernel) ⟨Nat.le_of_ble_eq_true rfl, Nat.le_of_ble_eq_true rfl⟩) hP hK hN [0, 1] rfl (va_recv hK hP (ci := 0) (q0 := 0) rfl rfl) rfl hl.1 rfl (Nat.le_of_ble_eq_true rfl) dX0_word_17 ⟨Nat.zero_le _, Nat.zero_le _⟩ ?_
        refine lv_ior hx hb dX0_word_20 ?_
        refine lv_istore_n (lv' := [(2, .int (((z_wordN f b i) <<< (8 &&& 31)) ||| (z_at f (b + (nI i))))), (0, .ref h), (1, .int b), (3, .int (nI i))]) hx hb dX0_word_21 rfl hl (by decide) rfl (fun ls hl => ?_)
        refine lv_iinc (v := (nI (i + 1))) (lv' := [(3, .int (nI (i + 1))), (2, .int (((z_wordN f b i) <<< (8 &&& 31)) ||| (z_at f (b + (nI i))))), (0, .ref h), (1, .int b)]) hx hb dX0_word_22 hl (k := 3) rfl (z_inc _ _ rfl) (by decide) rfl (fun ls hl => ?_)
        refine lv_goto (tgt := 4) hx hb dX0_word_25 (by decide) ?_
        exact ih_4 (i + 1) _ (by omega) (by omega) (lv_sub hl [2, 3, 1, 0] rfl)
  exact lp_4 _ 0 _ (by omega) (Nat.lt_succ_self _) (lv_sub hl [2, 3, 1, 0] rfl)
abbrev rm_X0_digestOf : Room := { frames := 1, cells := 0, slots := 0, locals := 22 }
set_option maxRecDepth 20000 in
theorem qX0_digestOf_8 : (Cond.initialized RX5 : Cond) ∈ wsX0_digestOf := List.mem_of_getElem? (i := 8) rfl
set_option maxRecDepth 20000 in
theorem qX0_digestOf_7 : (Cond.static yX5_digestByte : Cond) ∈ wsX0_digestOf := List.mem_of_getElem? (i := 7) rfl
set_option maxHeartbeats 4000000 in
set_option maxRecDepth 100000 in
theorem k_X0_digestOf (l : Launch) (D : va_G) (cI : ClassId) (h q : Nat) (f : RW) (p : Int32) (a : Int32) (st : Int32) (n : Int32) (k : Int32) (b : Int32) (len : Int32)  : zMR l D cI yX0_digestOf wsX0_digestOf rm_X0_digestOf [.ref h, .int b, .int len] (wF cI h q f p a st n k) (.int (z_digO f b len)) := by
  refine zEntR (cc := cX0_digestOf) (maxL := 5) (ret := (some .int)) (own := RX0) (lvs := [(0, .ref h), (1, .int b), (2, .int len)]) (by decide) rfl rfl rfl rfl (Nat.le_of_ble_eq_true rfl) rfl ?_
  intro p0 e s m args below meth c Q ls hx hb hml hts hown hP hK hN hl hret hretA
  refine lv_iconst (v := 0) hx hb dX0_digestOf_0 (by decide) ?_
  refine lv_istore_n (lv' := [(3, .int 0), (0, .ref h), (1, .int b), (2, .int len)]) hx hb dX0_digestOf_1 rfl hl (by decide) rfl (fun ls hl => ?_)
  refine lv_iconst (v := 0) hx hb dX0_digestOf_2 (by decide) ?_
  refine lv_istore (lv' := [(4, .int 0), (3, .int 0), (0, .ref h), (1, .int b), (2, .int len)]) hx hb dX0_digestOf_3 hl (by decide) rfl (fun ls hl => ?_)
  have lp_5 : ∀ (g_5 : Nat) (i : Nat) (ls : Array Slot), i ≤ len.toNatClampNeg → len.toNatClampNeg - i < g_5 → lv_has ls 5 [(0, .ref h), (1, .int b), (2, .int len), (3, .int (z_digN f b i)), (4, .int (nI i))] → W p0 l e rm_X0_digestOf s m args below meth c s.heap [] 0 0 Q (F0 m 5 ls []) := by
    intro g_5
    induction g_5 with
    | zero => intro i ls h1 h9_5; exact absurd h9_5 (Nat.not_lt_zero _)
    | succ g_5 ih_5 =>
      intro i ls h1 h9_5 hl
      refine lv_iload hx hb dX0_digestOf_5 (lv_at hl 4 rfl) ?_
      refine lv_iload_n hx hb dX0_digestOf_7 rfl (lv_at hl 2 rfl) ?_
      have h8 := z_clamp len
      refine z_icmp_geC (tgt := 30) hx hb dX0_digestOf_8 (by decide) i rfl (by omega) (fun c_8 => ?_) (fun c_8 => ?_)
      · -- 8 t
        refine lv_iload_n hx hb dX0_digestOf_30 rfl (lv_at hl 3 rfl) ?_
        exact hret 31 ls (z_digN f b i) _ dX0_digestOf_31 rfl rfl (congrArg Value.int (by rw [z_digO, show len.toNatClampNeg = i by omega]))
      · -- 8 f
        refine lv_iload_n hx hb dX0_digestOf_11 rfl (lv_at hl 3 rfl) ?_
        refine lv_aload_n hx hb dX0_digestOf_12 rfl (lv_at hl 0 rfl) ?_
        refine lv_iload_n hx hb dX0_digestOf_13 rfl (lv_at hl 1 rfl) ?_
        refine lv_iload hx hb dX0_digestOf_14 (lv_at hl 4 rfl) ?_
        refine lv_iadd hx hb dX0_digestOf_16 ?_
        refine zVR (As := [.int (b + (nI i))]) (rest := [.int (z_digN f b i)]) ⟨hx, hb, hml, hown, hts⟩ (k_X0_at l D cI h q f p a st n k (b + (nI i))) (cwV 1 hts gX0_digestOf_X0_at rfl rfl rfl (by decide +kernel) ⟨Nat.le_of_ble_eq_true rfl, Nat.le_of_ble_eq_true rfl⟩) hP hK hN [0, 1] rfl (va_recv hK hP (ci := 0) (q0 := 0) rfl rfl) rfl hl.1 rfl (Nat.le_of_ble_eq_true rfl) dX0_digestOf_17 ⟨Nat.zero_le _, Nat.zero_le _⟩ ?_
        refine zNR (As := [.int (z_digN f b i), .int (z_at f (b + (nI i)))]) (rest := []) ⟨hx, hb, hml, hown, hts⟩ (k_X5_digestByte l D cI (z_digN f b i) (z_at f (b + (nI i)))) ⟨va_cnB 2 hts gX0_digestOf_X5_digestByte_n48 rfl rfl rfl (zN_at hN 16 rfl) (hts _ qX0_digestOf_8) (by decide +kernel) ⟨Nat.le_of_ble_eq_true rfl, Nat.le_of_ble_eq_true rfl⟩, hts _ qX0_digestOf_7, trivial⟩ hP hK hN [] rfl rfl hl.1 rfl (Nat.le_of_ble_eq_true rfl) dX0_digestOf_20 ⟨Nat.zero_le _, Nat.zero_le _⟩ ?_
        refine lv_istore_n (lv' := [(3, .int (z_digB (z_digN f b i) (z_at f (b + (nI i))))), (0, .ref h), (1, .int b), (2, .int len), (4, .int (nI i))]) hx hb dX0_digestOf_23 rfl hl (by decide) rfl (fun ls hl => ?_)
        refine lv_iinc (v := (nI (i + 1))) (lv' := [(4, .int (nI (i + 1))), (3, .int (z_digB (z_digN f b i) (z_at f (b + (nI i))))), (0, .ref h), (1, .int b), (2, .int len)]) hx hb dX0_digestOf_24 hl (k := 4) rfl (z_inc _ _ rfl) (by decide) rfl (fun ls hl => ?_)
        refine lv_goto (tgt := 5) hx hb dX0_digestOf_27 (by decide) ?_
        exact ih_5 (i + 1) _ (by omega) (by omega) (lv_sub hl [2, 3, 4, 1, 0] rfl)
  exact lp_5 _ 0 _ (Nat.zero_le _) (Nat.lt_succ_self _) (lv_sub hl [2, 3, 4, 1, 0] rfl)
